section
-- ===== PART A: goes FIRST, ahead of the names: the tables' words, and 'selects' of the private methods out of them =====
/-- a private method of a class that the tables say can be made, by its rows of tables_1 -/
def lw_okq (q : MethodName × Nat) : Prop := (q.1.cls ≠ "java/lang/invoke/MethodHandle" ∧ q.1.cls ≠ "java/lang/invoke/VarHandle") ∧ Cond.instantiable q.1.cls q.2 ∈ tables_1 ∧ Cond.privateMethod q.1 ∈ tables_1 ∧ Cond.instanceMethod q.1 ∈ tables_1
theorem lw_p0 : lw_okq (⟨"WordEvidence$Text", "lengthenRun", "(I)V"⟩, 4) := ⟨⟨by decide +kernel, by decide +kernel⟩, List.mem_of_getElem? (i := 22) (by decide +kernel), List.mem_of_getElem? (i := 162) (by decide +kernel), List.mem_of_getElem? (i := 163) (by decide +kernel)⟩
theorem lw_p1 : lw_okq (⟨"WordEvidence", "isClass", "(I)Z"⟩, 6) := ⟨⟨by decide +kernel, by decide +kernel⟩, List.mem_of_getElem? (i := 14) (by decide +kernel), List.mem_of_getElem? (i := 199) (by decide +kernel), List.mem_of_getElem? (i := 200) (by decide +kernel)⟩
theorem lw_p2 : lw_okq (⟨"WordEvidence", "change", "(ILWordEvidence$Document;I)V"⟩, 6) := ⟨⟨by decide +kernel, by decide +kernel⟩, List.mem_of_getElem? (i := 14) (by decide +kernel), List.mem_of_getElem? (i := 253) (by decide +kernel), List.mem_of_getElem? (i := 254) (by decide +kernel)⟩
theorem lw_p3 : lw_okq (⟨"WordEvidence$Shelf", "noteNewWords", "(LWordEvidence$Document;I)I"⟩, 2) := ⟨⟨by decide +kernel, by decide +kernel⟩, List.mem_of_getElem? (i := 46) (by decide +kernel), List.mem_of_getElem? (i := 330) (by decide +kernel), List.mem_of_getElem? (i := 331) (by decide +kernel)⟩
theorem lw_p4 : lw_okq (⟨"WordEvidence$Shelf", "isSeen", "(JI)Z"⟩, 2) := ⟨⟨by decide +kernel, by decide +kernel⟩, List.mem_of_getElem? (i := 46) (by decide +kernel), List.mem_of_getElem? (i := 334) (by decide +kernel), List.mem_of_getElem? (i := 335) (by decide +kernel)⟩
theorem lw_p5 : lw_okq (⟨"WordEvidence$Chances", "placeOf", "(I)I"⟩, 7) := ⟨⟨by decide +kernel, by decide +kernel⟩, List.mem_of_getElem? (i := 86) (by decide +kernel), List.mem_of_getElem? (i := 362) (by decide +kernel), List.mem_of_getElem? (i := 363) (by decide +kernel)⟩
theorem lw_p6 : lw_okq (⟨"WordEvidence$Chances", "multiplyOut", "(LWordEvidence$Product;II)V"⟩, 7) := ⟨⟨by decide +kernel, by decide +kernel⟩, List.mem_of_getElem? (i := 86) (by decide +kernel), List.mem_of_getElem? (i := 370) (by decide +kernel), List.mem_of_getElem? (i := 371) (by decide +kernel)⟩
theorem lw_p7 : lw_okq (⟨"WordEvidenceModel", "read", "()V"⟩, 17) := ⟨⟨by decide +kernel, by decide +kernel⟩, List.mem_of_getElem? (i := 399) (by decide +kernel), List.mem_of_getElem? (i := 469) (by decide +kernel), List.mem_of_getElem? (i := 470) (by decide +kernel)⟩
theorem lw_p8 : lw_okq (⟨"WordEvidenceModel", "inForce", "()I"⟩, 17) := ⟨⟨by decide +kernel, by decide +kernel⟩, List.mem_of_getElem? (i := 399) (by decide +kernel), List.mem_of_getElem? (i := 492) (by decide +kernel), List.mem_of_getElem? (i := 493) (by decide +kernel)⟩
theorem lw_p9 : lw_okq (⟨"WordEvidenceModel", "log", "(IIII)V"⟩, 17) := ⟨⟨by decide +kernel, by decide +kernel⟩, List.mem_of_getElem? (i := 399) (by decide +kernel), List.mem_of_getElem? (i := 497) (by decide +kernel), List.mem_of_getElem? (i := 498) (by decide +kernel)⟩
theorem lw_p10 : lw_okq (⟨"WordEvidenceModel", "apply", "(I)V"⟩, 17) := ⟨⟨by decide +kernel, by decide +kernel⟩, List.mem_of_getElem? (i := 399) (by decide +kernel), List.mem_of_getElem? (i := 501) (by decide +kernel), List.mem_of_getElem? (i := 502) (by decide +kernel)⟩
theorem lw_p11 : lw_okq (⟨"WordEvidenceModel", "copy", "(II)V"⟩, 17) := ⟨⟨by decide +kernel, by decide +kernel⟩, List.mem_of_getElem? (i := 399) (by decide +kernel), List.mem_of_getElem? (i := 513) (by decide +kernel), List.mem_of_getElem? (i := 514) (by decide +kernel)⟩
theorem lw_p12 : lw_okq (⟨"WordEvidenceModel", "isClass", "(I)Z"⟩, 17) := ⟨⟨by decide +kernel, by decide +kernel⟩, List.mem_of_getElem? (i := 399) (by decide +kernel), List.mem_of_getElem? (i := 529) (by decide +kernel), List.mem_of_getElem? (i := 530) (by decide +kernel)⟩
theorem lw_p13 : lw_okq (⟨"WordEvidenceModel", "howOften", "(IJ)I"⟩, 17) := ⟨⟨by decide +kernel, by decide +kernel⟩, List.mem_of_getElem? (i := 399) (by decide +kernel), List.mem_of_getElem? (i := 537) (by decide +kernel), List.mem_of_getElem? (i := 538) (by decide +kernel)⟩
theorem lw_p14 : lw_okq (⟨"WordEvidenceModel", "isNew", "(II)Z"⟩, 17) := ⟨⟨by decide +kernel, by decide +kernel⟩, List.mem_of_getElem? (i := 399) (by decide +kernel), List.mem_of_getElem? (i := 545) (by decide +kernel), List.mem_of_getElem? (i := 546) (by decide +kernel)⟩
theorem lw_p15 : lw_okq (⟨"WordEvidenceModel", "against", "(II)I"⟩, 17) := ⟨⟨by decide +kernel, by decide +kernel⟩, List.mem_of_getElem? (i := 399) (by decide +kernel), List.mem_of_getElem? (i := 557) (by decide +kernel), List.mem_of_getElem? (i := 558) (by decide +kernel)⟩
def lw_privs_1 : List (MethodName × Nat) := [(⟨"WordEvidence$Text", "lengthenRun", "(I)V"⟩, 4), (⟨"WordEvidence", "isClass", "(I)Z"⟩, 6), (⟨"WordEvidence", "change", "(ILWordEvidence$Document;I)V"⟩, 6), (⟨"WordEvidence$Shelf", "noteNewWords", "(LWordEvidence$Document;I)I"⟩, 2), (⟨"WordEvidence$Shelf", "isSeen", "(JI)Z"⟩, 2), (⟨"WordEvidence$Chances", "placeOf", "(I)I"⟩, 7), (⟨"WordEvidence$Chances", "multiplyOut", "(LWordEvidence$Product;II)V"⟩, 7), (⟨"WordEvidenceModel", "read", "()V"⟩, 17), (⟨"WordEvidenceModel", "inForce", "()I"⟩, 17), (⟨"WordEvidenceModel", "log", "(IIII)V"⟩, 17), (⟨"WordEvidenceModel", "apply", "(I)V"⟩, 17), (⟨"WordEvidenceModel", "copy", "(II)V"⟩, 17), (⟨"WordEvidenceModel", "isClass", "(I)Z"⟩, 17), (⟨"WordEvidenceModel", "howOften", "(IJ)I"⟩, 17), (⟨"WordEvidenceModel", "isNew", "(II)Z"⟩, 17), (⟨"WordEvidenceModel", "against", "(II)I"⟩, 17)]
theorem lw_r1 : ∀ q ∈ lw_privs_1, lw_okq q := List.forall_mem_cons.mpr ⟨lw_p0, List.forall_mem_cons.mpr ⟨lw_p1, List.forall_mem_cons.mpr ⟨lw_p2, List.forall_mem_cons.mpr ⟨lw_p3, List.forall_mem_cons.mpr ⟨lw_p4, List.forall_mem_cons.mpr ⟨lw_p5, List.forall_mem_cons.mpr ⟨lw_p6, List.forall_mem_cons.mpr ⟨lw_p7, List.forall_mem_cons.mpr ⟨lw_p8, List.forall_mem_cons.mpr ⟨lw_p9, List.forall_mem_cons.mpr ⟨lw_p10, List.forall_mem_cons.mpr ⟨lw_p11, List.forall_mem_cons.mpr ⟨lw_p12, List.forall_mem_cons.mpr ⟨lw_p13, List.forall_mem_cons.mpr ⟨lw_p14, List.forall_mem_cons.mpr ⟨lw_p15, fun _ h => absurd h List.not_mem_nil⟩⟩⟩⟩⟩⟩⟩⟩⟩⟩⟩⟩⟩⟩⟩⟩
theorem lw_p16 : lw_okq (⟨"WordEvidenceModel", "times", "(ZI)V"⟩, 17) := ⟨⟨by decide +kernel, by decide +kernel⟩, List.mem_of_getElem? (i := 399) (by decide +kernel), List.mem_of_getElem? (i := 564) (by decide +kernel), List.mem_of_getElem? (i := 565) (by decide +kernel)⟩
theorem lw_p17 : lw_okq (⟨"WordEvidenceModel", "place", "(I)I"⟩, 17) := ⟨⟨by decide +kernel, by decide +kernel⟩, List.mem_of_getElem? (i := 399) (by decide +kernel), List.mem_of_getElem? (i := 572) (by decide +kernel), List.mem_of_getElem? (i := 573) (by decide +kernel)⟩
def lw_privs_2 : List (MethodName × Nat) := [(⟨"WordEvidenceModel", "times", "(ZI)V"⟩, 17), (⟨"WordEvidenceModel", "place", "(I)I"⟩, 17)]
theorem lw_r2 : ∀ q ∈ lw_privs_2, lw_okq q := List.forall_mem_cons.mpr ⟨lw_p16, List.forall_mem_cons.mpr ⟨lw_p17, fun _ h => absurd h List.not_mem_nil⟩⟩
def lw_privs : List (MethodName × Nat) := lw_privs_1 ++ (lw_privs_2)
def lw_tbl : List Cond := k2_sels lw_privs ++ tables_1
theorem lw_privs_ok : ∀ q ∈ lw_privs, lw_okq q := by
  show ∀ q ∈ lw_privs_1 ++ (lw_privs_2), lw_okq q
  exact List.forall_mem_append.mpr ⟨lw_r1, lw_r2⟩
end
section
abbrev zw_Y : Type := MethodName × ByteArray × Nat × Option FieldType
/-! names: classes (fields in the order of the tables), methods; by gen/lay.py out of the Statement -/
def T_WE : u_T := fun k => match k with
  | 0 => ("WordEvidence", "classes", "I", true)
  | 1 => ("WordEvidence", "text", "LWordEvidence$Text;", true)
  | 2 => ("WordEvidence", "inForce", "LWordEvidence$Shelf;", true)
  | 3 => ("WordEvidence", "safe", "LWordEvidence$Shelf;", true)
  | 4 => ("WordEvidence", "log", "LWordEvidence$Log;", true)
  | _ => ("WordEvidence", "chances", "LWordEvidence$Chances;", true)
def T_Text : u_T := fun k => match k with
  | 0 => ("WordEvidence$Text", "words", "[J", true)
  | 1 => ("WordEvidence$Text", "wordCount", "I", false)
  | 2 => ("WordEvidence$Text", "length", "I", false)
  | _ => ("WordEvidence$Text", "runLength", "I", false)
def T_Shelf : u_T := fun k => match k with
  | 0 => ("WordEvidence$Shelf", "byId", "[LWordEvidence$Document;", true)
  | _ => ("WordEvidence$Shelf", "seen", "[J", true)
def T_Log : u_T := fun k => match k with
  | 0 => ("WordEvidence$Log", "ids", "[I", true)
  | 1 => ("WordEvidence$Log", "blocks", "[I", true)
  | 2 => ("WordEvidence$Log", "placed", "[LWordEvidence$Document;", true)
  | 3 => ("WordEvidence$Log", "changes", "I", false)
  | _ => ("WordEvidence$Log", "pendingBlocks", "I", false)
def T_Chances : u_T := fun k => match k with
  | 0 => ("WordEvidence$Chances", "documents", "[I", true)
  | 1 => ("WordEvidence$Chances", "numerators", "[[I", true)
  | 2 => ("WordEvidence$Chances", "denominators", "[I", true)
  | 3 => ("WordEvidence$Chances", "left", "LWordEvidence$Product;", true)
  | 4 => ("WordEvidence$Chances", "right", "LWordEvidence$Product;", true)
  | 5 => ("WordEvidence$Chances", "classes", "I", false)
  | _ => ("WordEvidence$Chances", "wordCount", "I", false)
def T_Product : u_T := fun k => match k with
  | _ => ("WordEvidence$Product", "limbs", "[J", true)
def T_Document : u_T := fun k => match k with
  | 0 => ("WordEvidence$Document", "classNumber", "I", true)
  | _ => ("WordEvidence$Document", "words", "[J", true)
def T_Mo : u_T := fun k => match k with
  | 0 => ("WordEvidenceModel", "classes", "I", false)
  | 1 => ("WordEvidenceModel", "text", "[I", true)
  | 2 => ("WordEvidenceModel", "typed", "I", false)
  | 3 => ("WordEvidenceModel", "cut", "[J", true)
  | 4 => ("WordEvidenceModel", "letters", "[I", true)
  | 5 => ("WordEvidenceModel", "words", "I", false)
  | 6 => ("WordEvidenceModel", "labels", "[I", true)
  | 7 => ("WordEvidenceModel", "sizes", "[I", true)
  | 8 => ("WordEvidenceModel", "contents", "[J", true)
  | 9 => ("WordEvidenceModel", "changes", "I", false)
  | 10 => ("WordEvidenceModel", "whose", "[I", true)
  | 11 => ("WordEvidenceModel", "what", "[I", true)
  | 12 => ("WordEvidenceModel", "many", "[I", true)
  | 13 => ("WordEvidenceModel", "blocks", "[I", true)
  | 14 => ("WordEvidenceModel", "written", "[J", true)
  | 15 => ("WordEvidenceModel", "left", "[I", true)
  | _ => ("WordEvidenceModel", "right", "[I", true)
abbrev vwCl : List vw_C := [("WordEvidence", T_WE, 6), ("WordEvidence$Text", T_Text, 4), ("WordEvidence$Shelf", T_Shelf, 2), ("WordEvidence$Log", T_Log, 5), ("WordEvidence$Chances", T_Chances, 7), ("WordEvidence$Product", T_Product, 1), ("WordEvidence$Document", T_Document, 2), ("WordEvidenceModel", T_Mo, 17)]
abbrev Y_WE_init : zw_Y := (⟨"WordEvidence", "<init>", "(I)V"⟩, prog_1_method_1_code, 2, none)
abbrev Y_Text_init : zw_Y := (⟨"WordEvidence$Text", "<init>", "()V"⟩, prog_8_method_1_code, 1, none)
abbrev Y_Shelf_init : zw_Y := (⟨"WordEvidence$Shelf", "<init>", "()V"⟩, prog_7_method_1_code, 1, none)
abbrev Y_Log_init : zw_Y := (⟨"WordEvidence$Log", "<init>", "()V"⟩, prog_5_method_1_code, 1, none)
abbrev Y_Chances_init : zw_Y := (⟨"WordEvidence$Chances", "<init>", "()V"⟩, prog_2_method_1_code, 1, none)
abbrev Y_Product_init : zw_Y := (⟨"WordEvidence$Product", "<init>", "()V"⟩, prog_6_method_1_code, 1, none)
abbrev Y_Math_min : zw_Y := (⟨"java/lang/Math", "min", "(II)I"⟩, prog_12_method_69_code, 2, (some (.int)))
abbrev Y_Math_max : zw_Y := (⟨"java/lang/Math", "max", "(II)I"⟩, prog_12_method_65_code, 2, (some (.int)))
abbrev Y_WE_key : zw_Y := (⟨"WordEvidence", "key", "(C)Z"⟩, prog_1_method_2_code, 2, (some (.boolean)))
abbrev Y_Text_append : zw_Y := (⟨"WordEvidence$Text", "append", "(C)Z"⟩, prog_8_method_2_code, 3, (some (.boolean)))
abbrev Y_Letters_fold : zw_Y := (⟨"WordEvidence$Letters", "fold", "(C)I"⟩, prog_4_method_2_code, 2, (some (.int)))
abbrev Y_Text_lengthenRun : zw_Y := (⟨"WordEvidence$Text", "lengthenRun", "(I)V"⟩, prog_8_method_3_code, 3, none)
abbrev Y_Letters_with : zw_Y := (⟨"WordEvidence$Letters", "with", "(JII)J"⟩, prog_4_method_3_code, 4, (some (.long)))
abbrev Y_WE_clear : zw_Y := (⟨"WordEvidence", "clear", "()I"⟩, prog_1_method_3_code, 1, (some (.int)))
abbrev Y_Text_empty : zw_Y := (⟨"WordEvidence$Text", "empty", "()I"⟩, prog_8_method_4_code, 2, (some (.int)))
abbrev Y_WE_words : zw_Y := (⟨"WordEvidence", "words", "()I"⟩, prog_1_method_4_code, 1, (some (.int)))
abbrev Y_WE_letter : zw_Y := (⟨"WordEvidence", "letter", "(II)I"⟩, prog_1_method_5_code, 3, (some (.int)))
abbrev Y_Text_hasWord : zw_Y := (⟨"WordEvidence$Text", "hasWord", "(I)Z"⟩, prog_8_method_5_code, 2, (some (.boolean)))
abbrev Y_Letters_at : zw_Y := (⟨"WordEvidence$Letters", "at", "(JI)I"⟩, prog_4_method_4_code, 4, (some (.int)))
abbrev Y_WE_train : zw_Y := (⟨"WordEvidence", "train", "(II)I"⟩, prog_1_method_6_code, 4, (some (.int)))
abbrev Y_WE_isId : zw_Y := (⟨"WordEvidence", "isId", "(I)Z"⟩, prog_1_method_20_code, 1, (some (.boolean)))
abbrev Y_WE_isClass : zw_Y := (⟨"WordEvidence", "isClass", "(I)Z"⟩, prog_1_method_19_code, 2, (some (.boolean)))
abbrev Y_Shelf_find : zw_Y := (⟨"WordEvidence$Shelf", "find", "(I)LWordEvidence$Document;"⟩, prog_7_method_2_code, 2, (some ((.object "WordEvidence$Document"))))
abbrev Y_Shelf_size : zw_Y := (⟨"WordEvidence$Shelf", "size", "()I"⟩, prog_7_method_5_code, 6, (some (.int)))
abbrev Y_WE_blocksToTrain : zw_Y := (⟨"WordEvidence", "blocksToTrain", "(I)I"⟩, prog_1_method_21_code, 1, (some (.int)))
abbrev Y_Log_hasRoomFor : zw_Y := (⟨"WordEvidence$Log", "hasRoomFor", "(I)Z"⟩, prog_5_method_2_code, 2, (some (.boolean)))
abbrev Y_Text_copyOfWords : zw_Y := (⟨"WordEvidence$Text", "copyOfWords", "()[J"⟩, prog_8_method_6_code, 1, (some ((.array .long))))
abbrev Y_Arrays_copyOf : zw_Y := (⟨"java/util/Arrays", "copyOf", "([JI)[J"⟩, prog_14_method_124_code, 3, (some ((.array .long))))
abbrev Y_Document_init : zw_Y := (⟨"WordEvidence$Document", "<init>", "(I[J)V"⟩, prog_3_method_1_code, 3, none)
abbrev Y_WE_change : zw_Y := (⟨"WordEvidence", "change", "(ILWordEvidence$Document;I)V"⟩, prog_1_method_22_code, 4, none)
abbrev Y_Log_write : zw_Y := (⟨"WordEvidence$Log", "write", "(ILWordEvidence$Document;I)V"⟩, prog_5_method_3_code, 4, none)
abbrev Y_Shelf_put : zw_Y := (⟨"WordEvidence$Shelf", "put", "(ILWordEvidence$Document;)V"⟩, prog_7_method_3_code, 3, none)
abbrev Y_WE_untrain : zw_Y := (⟨"WordEvidence", "untrain", "(I)I"⟩, prog_1_method_7_code, 3, (some (.int)))
abbrev Y_WE_sync : zw_Y := (⟨"WordEvidence", "sync", "()I"⟩, prog_1_method_8_code, 1, (some (.int)))
abbrev Y_Shelf_copyFrom : zw_Y := (⟨"WordEvidence$Shelf", "copyFrom", "(LWordEvidence$Shelf;)V"⟩, prog_7_method_4_code, 3, none)
abbrev Y_Log_empty : zw_Y := (⟨"WordEvidence$Log", "empty", "()I"⟩, prog_5_method_5_code, 2, (some (.int)))
abbrev Y_WE_fail : zw_Y := (⟨"WordEvidence", "fail", "(I)I"⟩, prog_1_method_9_code, 3, (some (.int)))
abbrev Y_Log_replayOn : zw_Y := (⟨"WordEvidence$Log", "replayOn", "(LWordEvidence$Shelf;I)I"⟩, prog_5_method_4_code, 5, (some (.int)))
abbrev Y_WE_pending : zw_Y := (⟨"WordEvidence", "pending", "()I"⟩, prog_1_method_10_code, 1, (some (.int)))
abbrev Y_WE_documents : zw_Y := (⟨"WordEvidence", "documents", "(I)I"⟩, prog_1_method_11_code, 2, (some (.int)))
abbrev Y_Shelf_documentsOf : zw_Y := (⟨"WordEvidence$Shelf", "documentsOf", "(I)I"⟩, prog_7_method_6_code, 7, (some (.int)))
abbrev Y_WE_total : zw_Y := (⟨"WordEvidence", "total", "(I)I"⟩, prog_1_method_12_code, 2, (some (.int)))
abbrev Y_Shelf_wordsOf : zw_Y := (⟨"WordEvidence$Shelf", "wordsOf", "(I)I"⟩, prog_7_method_7_code, 7, (some (.int)))
abbrev Y_WE_count : zw_Y := (⟨"WordEvidence", "count", "(II)I"⟩, prog_1_method_13_code, 3, (some (.int)))
abbrev Y_Shelf_timesOf : zw_Y := (⟨"WordEvidence$Shelf", "timesOf", "(IJ)I"⟩, prog_7_method_8_code, 9, (some (.int)))
abbrev Y_Document_timesOf : zw_Y := (⟨"WordEvidence$Document", "timesOf", "(J)I"⟩, prog_3_method_2_code, 9, (some (.int)))
abbrev Y_WE_vocabulary : zw_Y := (⟨"WordEvidence", "vocabulary", "()I"⟩, prog_1_method_14_code, 1, (some (.int)))
abbrev Y_Shelf_differentWords : zw_Y := (⟨"WordEvidence$Shelf", "differentWords", "()I"⟩, prog_7_method_9_code, 6, (some (.int)))
abbrev Y_Shelf_noteNewWords : zw_Y := (⟨"WordEvidence$Shelf", "noteNewWords", "(LWordEvidence$Document;I)I"⟩, prog_7_method_10_code, 9, (some (.int)))
abbrev Y_Shelf_isSeen : zw_Y := (⟨"WordEvidence$Shelf", "isSeen", "(JI)Z"⟩, prog_7_method_11_code, 5, (some (.boolean)))
abbrev Y_WE_label : zw_Y := (⟨"WordEvidence", "label", "(I)I"⟩, prog_1_method_15_code, 3, (some (.int)))
abbrev Y_WE_classify : zw_Y := (⟨"WordEvidence", "classify", "()I"⟩, prog_1_method_16_code, 1, (some (.int)))
abbrev Y_WE_order : zw_Y := (⟨"WordEvidence", "order", "(I)I"⟩, prog_1_method_17_code, 2, (some (.int)))
abbrev Y_Chances_weigh : zw_Y := (⟨"WordEvidence$Chances", "weigh", "(LWordEvidence$Shelf;LWordEvidence$Text;I)V"⟩, prog_2_method_2_code, 7, none)
abbrev Y_Chances_classAt : zw_Y := (⟨"WordEvidence$Chances", "classAt", "(I)I"⟩, prog_2_method_3_code, 3, (some (.int)))
abbrev Y_Chances_placeOf : zw_Y := (⟨"WordEvidence$Chances", "placeOf", "(I)I"⟩, prog_2_method_4_code, 5, (some (.int)))
abbrev Y_Chances_signOf : zw_Y := (⟨"WordEvidence$Chances", "signOf", "(II)I"⟩, prog_2_method_5_code, 3, (some (.int)))
abbrev Y_Chances_multiplyOut : zw_Y := (⟨"WordEvidence$Chances", "multiplyOut", "(LWordEvidence$Product;II)V"⟩, prog_2_method_6_code, 5, none)
abbrev Y_Product_start : zw_Y := (⟨"WordEvidence$Product", "start", "(I)V"⟩, prog_6_method_2_code, 2, none)
abbrev Y_Arrays_fill : zw_Y := (⟨"java/util/Arrays", "fill", "([JJ)V"⟩, prog_14_method_101_code, 5, none)
abbrev Y_Product_times : zw_Y := (⟨"WordEvidence$Product", "times", "(I)V"⟩, prog_6_method_3_code, 7, none)
abbrev Y_Product_signAgainst : zw_Y := (⟨"WordEvidence$Product", "signAgainst", "(LWordEvidence$Product;)I"⟩, prog_6_method_4_code, 3, (some (.int)))
abbrev Y_WE_compare : zw_Y := (⟨"WordEvidence", "compare", "(II)I"⟩, prog_1_method_18_code, 3, (some (.int)))
abbrev Y_Law_cell : zw_Y := (⟨"WordEvidenceLaw", "cell", "([II)I"⟩, method_2_code, 2, (some (.int)))
abbrev Y_Mo_init : zw_Y := (⟨"WordEvidenceModel", "<init>", "(I)V"⟩, prog_10_method_1_code, 2, none)
abbrev Y_Mo_key : zw_Y := (⟨"WordEvidenceModel", "key", "(C)Z"⟩, prog_10_method_2_code, 2, (some (.boolean)))
abbrev Y_Mo_clear : zw_Y := (⟨"WordEvidenceModel", "clear", "()I"⟩, prog_10_method_3_code, 2, (some (.int)))
abbrev Y_Mo_words : zw_Y := (⟨"WordEvidenceModel", "words", "()I"⟩, prog_10_method_6_code, 1, (some (.int)))
abbrev Y_Mo_read : zw_Y := (⟨"WordEvidenceModel", "read", "()V"⟩, prog_10_method_5_code, 4, none)
abbrev Y_Mo_plain : zw_Y := (⟨"WordEvidenceModel", "plain", "(I)I"⟩, prog_10_method_4_code, 1, (some (.int)))
abbrev Y_Mo_letter : zw_Y := (⟨"WordEvidenceModel", "letter", "(II)I"⟩, prog_10_method_7_code, 3, (some (.int)))
abbrev Y_Mo_pending : zw_Y := (⟨"WordEvidenceModel", "pending", "()I"⟩, prog_10_method_10_code, 3, (some (.int)))
abbrev Y_Mo_train : zw_Y := (⟨"WordEvidenceModel", "train", "(II)I"⟩, prog_10_method_13_code, 4, (some (.int)))
abbrev Y_Mo_isId : zw_Y := (⟨"WordEvidenceModel", "isId", "(I)Z"⟩, prog_10_method_8_code, 1, (some (.boolean)))
abbrev Y_Mo_inForce : zw_Y := (⟨"WordEvidenceModel", "inForce", "()I"⟩, prog_10_method_9_code, 3, (some (.int)))
abbrev Y_Mo_log : zw_Y := (⟨"WordEvidenceModel", "log", "(IIII)V"⟩, prog_10_method_11_code, 6, none)
abbrev Y_Mo_apply : zw_Y := (⟨"WordEvidenceModel", "apply", "(I)V"⟩, prog_10_method_12_code, 4, none)
abbrev Y_Mo_untrain : zw_Y := (⟨"WordEvidenceModel", "untrain", "(I)I"⟩, prog_10_method_14_code, 3, (some (.int)))
abbrev Y_Mo_sync : zw_Y := (⟨"WordEvidenceModel", "sync", "()I"⟩, prog_10_method_16_code, 2, (some (.int)))
abbrev Y_Mo_copy : zw_Y := (⟨"WordEvidenceModel", "copy", "(II)V"⟩, prog_10_method_15_code, 4, none)
abbrev Y_Mo_fail : zw_Y := (⟨"WordEvidenceModel", "fail", "(I)I"⟩, prog_10_method_17_code, 5, (some (.int)))
abbrev Y_Mo_documents : zw_Y := (⟨"WordEvidenceModel", "documents", "(I)I"⟩, prog_10_method_19_code, 4, (some (.int)))
abbrev Y_Mo_total : zw_Y := (⟨"WordEvidenceModel", "total", "(I)I"⟩, prog_10_method_20_code, 4, (some (.int)))
abbrev Y_Mo_isClass : zw_Y := (⟨"WordEvidenceModel", "isClass", "(I)Z"⟩, prog_10_method_18_code, 2, (some (.boolean)))
abbrev Y_Mo_count : zw_Y := (⟨"WordEvidenceModel", "count", "(II)I"⟩, prog_10_method_22_code, 3, (some (.int)))
abbrev Y_Mo_howOften : zw_Y := (⟨"WordEvidenceModel", "howOften", "(IJ)I"⟩, prog_10_method_21_code, 7, (some (.int)))
abbrev Y_Mo_vocabulary : zw_Y := (⟨"WordEvidenceModel", "vocabulary", "()I"⟩, prog_10_method_24_code, 4, (some (.int)))
abbrev Y_Mo_isNew : zw_Y := (⟨"WordEvidenceModel", "isNew", "(II)Z"⟩, prog_10_method_23_code, 7, (some (.boolean)))
abbrev Y_Mo_label : zw_Y := (⟨"WordEvidenceModel", "label", "(I)I"⟩, prog_10_method_25_code, 2, (some (.int)))
abbrev Y_Mo_compare : zw_Y := (⟨"WordEvidenceModel", "compare", "(II)I"⟩, prog_10_method_28_code, 3, (some (.int)))
abbrev Y_Mo_against : zw_Y := (⟨"WordEvidenceModel", "against", "(II)I"⟩, prog_10_method_27_code, 7, (some (.int)))
abbrev Y_Mo_times : zw_Y := (⟨"WordEvidenceModel", "times", "(ZI)V"⟩, prog_10_method_26_code, 6, none)
abbrev Y_Mo_order : zw_Y := (⟨"WordEvidenceModel", "order", "(I)I"⟩, prog_10_method_30_code, 3, (some (.int)))
abbrev Y_Mo_place : zw_Y := (⟨"WordEvidenceModel", "place", "(I)I"⟩, prog_10_method_29_code, 5, (some (.int)))
abbrev Y_Mo_classify : zw_Y := (⟨"WordEvidenceModel", "classify", "()I"⟩, prog_10_method_31_code, 1, (some (.int)))
end
section
theorem dWE_init_0 : decode prog_1_method_1_code 0 = .ok (.aload_n 0, 1) := by decide +kernel
theorem dWE_init_1 : decode prog_1_method_1_code 1 = .ok (.invokespecial 1, 3) := by decide +kernel
theorem dWE_init_4 : decode prog_1_method_1_code 4 = .ok (.aload_n 0, 1) := by decide +kernel
theorem dWE_init_5 : decode prog_1_method_1_code 5 = .ok (.new 7, 3) := by decide +kernel
theorem dWE_init_8 : decode prog_1_method_1_code 8 = .ok (.dup, 1) := by decide +kernel
theorem dWE_init_9 : decode prog_1_method_1_code 9 = .ok (.invokespecial 9, 3) := by decide +kernel
theorem dWE_init_12 : decode prog_1_method_1_code 12 = .ok (.putfield 10, 3) := by decide +kernel
theorem dWE_init_15 : decode prog_1_method_1_code 15 = .ok (.aload_n 0, 1) := by decide +kernel
theorem dWE_init_16 : decode prog_1_method_1_code 16 = .ok (.new 16, 3) := by decide +kernel
theorem dWE_init_19 : decode prog_1_method_1_code 19 = .ok (.dup, 1) := by decide +kernel
theorem dWE_init_20 : decode prog_1_method_1_code 20 = .ok (.invokespecial 18, 3) := by decide +kernel
theorem dWE_init_23 : decode prog_1_method_1_code 23 = .ok (.putfield 19, 3) := by decide +kernel
theorem dWE_init_26 : decode prog_1_method_1_code 26 = .ok (.aload_n 0, 1) := by decide +kernel
theorem dWE_init_27 : decode prog_1_method_1_code 27 = .ok (.new 16, 3) := by decide +kernel
theorem dWE_init_30 : decode prog_1_method_1_code 30 = .ok (.dup, 1) := by decide +kernel
theorem dWE_init_31 : decode prog_1_method_1_code 31 = .ok (.invokespecial 18, 3) := by decide +kernel
theorem dWE_init_34 : decode prog_1_method_1_code 34 = .ok (.putfield 23, 3) := by decide +kernel
theorem dWE_init_37 : decode prog_1_method_1_code 37 = .ok (.aload_n 0, 1) := by decide +kernel
theorem dWE_init_38 : decode prog_1_method_1_code 38 = .ok (.new 26, 3) := by decide +kernel
theorem dWE_init_41 : decode prog_1_method_1_code 41 = .ok (.dup, 1) := by decide +kernel
theorem dWE_init_42 : decode prog_1_method_1_code 42 = .ok (.invokespecial 28, 3) := by decide +kernel
theorem dWE_init_45 : decode prog_1_method_1_code 45 = .ok (.putfield 29, 3) := by decide +kernel
theorem dWE_init_48 : decode prog_1_method_1_code 48 = .ok (.aload_n 0, 1) := by decide +kernel
theorem dWE_init_49 : decode prog_1_method_1_code 49 = .ok (.new 33, 3) := by decide +kernel
theorem dWE_init_52 : decode prog_1_method_1_code 52 = .ok (.dup, 1) := by decide +kernel
theorem dWE_init_53 : decode prog_1_method_1_code 53 = .ok (.invokespecial 35, 3) := by decide +kernel
theorem dWE_init_56 : decode prog_1_method_1_code 56 = .ok (.putfield 36, 3) := by decide +kernel
theorem dWE_init_59 : decode prog_1_method_1_code 59 = .ok (.aload_n 0, 1) := by decide +kernel
theorem dWE_init_60 : decode prog_1_method_1_code 60 = .ok (.iconst 2, 1) := by decide +kernel
theorem dWE_init_61 : decode prog_1_method_1_code 61 = .ok (.iconst 4, 1) := by decide +kernel
theorem dWE_init_62 : decode prog_1_method_1_code 62 = .ok (.iload_n 1, 1) := by decide +kernel
theorem dWE_init_63 : decode prog_1_method_1_code 63 = .ok (.invokestatic 40, 3) := by decide +kernel
theorem dWE_init_66 : decode prog_1_method_1_code 66 = .ok (.invokestatic 46, 3) := by decide +kernel
theorem dWE_init_69 : decode prog_1_method_1_code 69 = .ok (.putfield 49, 3) := by decide +kernel
theorem dWE_init_72 : decode prog_1_method_1_code 72 = .ok (.return_, 1) := by decide +kernel
theorem dText_init_0 : decode prog_8_method_1_code 0 = .ok (.aload_n 0, 1) := by decide +kernel
theorem dText_init_1 : decode prog_8_method_1_code 1 = .ok (.invokespecial 3, 3) := by decide +kernel
theorem dText_init_4 : decode prog_8_method_1_code 4 = .ok (.aload_n 0, 1) := by decide +kernel
theorem dText_init_5 : decode prog_8_method_1_code 5 = .ok (.bipush 20, 2) := by decide +kernel
theorem dText_init_7 : decode prog_8_method_1_code 7 = .ok (.newarray .long, 2) := by decide +kernel
theorem dText_init_9 : decode prog_8_method_1_code 9 = .ok (.putfield 9, 3) := by decide +kernel
theorem dText_init_12 : decode prog_8_method_1_code 12 = .ok (.aload_n 0, 1) := by decide +kernel
theorem dText_init_13 : decode prog_8_method_1_code 13 = .ok (.iconst 0, 1) := by decide +kernel
theorem dText_init_14 : decode prog_8_method_1_code 14 = .ok (.putfield 15, 3) := by decide +kernel
theorem dText_init_17 : decode prog_8_method_1_code 17 = .ok (.aload_n 0, 1) := by decide +kernel
theorem dText_init_18 : decode prog_8_method_1_code 18 = .ok (.iconst 0, 1) := by decide +kernel
theorem dText_init_19 : decode prog_8_method_1_code 19 = .ok (.putfield 19, 3) := by decide +kernel
theorem dText_init_22 : decode prog_8_method_1_code 22 = .ok (.aload_n 0, 1) := by decide +kernel
theorem dText_init_23 : decode prog_8_method_1_code 23 = .ok (.iconst 0, 1) := by decide +kernel
theorem dText_init_24 : decode prog_8_method_1_code 24 = .ok (.putfield 22, 3) := by decide +kernel
theorem dText_init_27 : decode prog_8_method_1_code 27 = .ok (.return_, 1) := by decide +kernel
theorem dShelf_init_0 : decode prog_7_method_1_code 0 = .ok (.aload_n 0, 1) := by decide +kernel
theorem dShelf_init_1 : decode prog_7_method_1_code 1 = .ok (.invokespecial 3, 3) := by decide +kernel
theorem dShelf_init_4 : decode prog_7_method_1_code 4 = .ok (.aload_n 0, 1) := by decide +kernel
theorem dShelf_init_5 : decode prog_7_method_1_code 5 = .ok (.bipush 32, 2) := by decide +kernel
theorem dShelf_init_7 : decode prog_7_method_1_code 7 = .ok (.anewarray 9, 3) := by decide +kernel
theorem dShelf_init_10 : decode prog_7_method_1_code 10 = .ok (.putfield 11, 3) := by decide +kernel
theorem dShelf_init_13 : decode prog_7_method_1_code 13 = .ok (.aload_n 0, 1) := by decide +kernel
theorem dShelf_init_14 : decode prog_7_method_1_code 14 = .ok (.sipush 200, 3) := by decide +kernel
theorem dShelf_init_17 : decode prog_7_method_1_code 17 = .ok (.newarray .long, 2) := by decide +kernel
theorem dShelf_init_19 : decode prog_7_method_1_code 19 = .ok (.putfield 17, 3) := by decide +kernel
theorem dShelf_init_22 : decode prog_7_method_1_code 22 = .ok (.return_, 1) := by decide +kernel
theorem dLog_init_0 : decode prog_5_method_1_code 0 = .ok (.aload_n 0, 1) := by decide +kernel
theorem dLog_init_1 : decode prog_5_method_1_code 1 = .ok (.invokespecial 3, 3) := by decide +kernel
theorem dLog_init_4 : decode prog_5_method_1_code 4 = .ok (.aload_n 0, 1) := by decide +kernel
theorem dLog_init_5 : decode prog_5_method_1_code 5 = .ok (.bipush 24, 2) := by decide +kernel
theorem dLog_init_7 : decode prog_5_method_1_code 7 = .ok (.newarray .int, 2) := by decide +kernel
theorem dLog_init_9 : decode prog_5_method_1_code 9 = .ok (.putfield 9, 3) := by decide +kernel
theorem dLog_init_12 : decode prog_5_method_1_code 12 = .ok (.aload_n 0, 1) := by decide +kernel
theorem dLog_init_13 : decode prog_5_method_1_code 13 = .ok (.bipush 24, 2) := by decide +kernel
theorem dLog_init_15 : decode prog_5_method_1_code 15 = .ok (.newarray .int, 2) := by decide +kernel
theorem dLog_init_17 : decode prog_5_method_1_code 17 = .ok (.putfield 15, 3) := by decide +kernel
theorem dLog_init_20 : decode prog_5_method_1_code 20 = .ok (.aload_n 0, 1) := by decide +kernel
theorem dLog_init_21 : decode prog_5_method_1_code 21 = .ok (.bipush 24, 2) := by decide +kernel
theorem dLog_init_23 : decode prog_5_method_1_code 23 = .ok (.anewarray 18, 3) := by decide +kernel
theorem dLog_init_26 : decode prog_5_method_1_code 26 = .ok (.putfield 20, 3) := by decide +kernel
theorem dLog_init_29 : decode prog_5_method_1_code 29 = .ok (.aload_n 0, 1) := by decide +kernel
theorem dLog_init_30 : decode prog_5_method_1_code 30 = .ok (.iconst 0, 1) := by decide +kernel
theorem dLog_init_31 : decode prog_5_method_1_code 31 = .ok (.putfield 24, 3) := by decide +kernel
theorem dLog_init_34 : decode prog_5_method_1_code 34 = .ok (.aload_n 0, 1) := by decide +kernel
theorem dLog_init_35 : decode prog_5_method_1_code 35 = .ok (.iconst 0, 1) := by decide +kernel
theorem dLog_init_36 : decode prog_5_method_1_code 36 = .ok (.putfield 28, 3) := by decide +kernel
theorem dLog_init_39 : decode prog_5_method_1_code 39 = .ok (.return_, 1) := by decide +kernel
theorem dChances_init_0 : decode prog_2_method_1_code 0 = .ok (.aload_n 0, 1) := by decide +kernel
theorem dChances_init_1 : decode prog_2_method_1_code 1 = .ok (.invokespecial 3, 3) := by decide +kernel
theorem dChances_init_4 : decode prog_2_method_1_code 4 = .ok (.aload_n 0, 1) := by decide +kernel
theorem dChances_init_5 : decode prog_2_method_1_code 5 = .ok (.iconst 4, 1) := by decide +kernel
theorem dChances_init_6 : decode prog_2_method_1_code 6 = .ok (.newarray .int, 2) := by decide +kernel
theorem dChances_init_8 : decode prog_2_method_1_code 8 = .ok (.putfield 9, 3) := by decide +kernel
theorem dChances_init_11 : decode prog_2_method_1_code 11 = .ok (.aload_n 0, 1) := by decide +kernel
theorem dChances_init_12 : decode prog_2_method_1_code 12 = .ok (.iconst 4, 1) := by decide +kernel
theorem dChances_init_13 : decode prog_2_method_1_code 13 = .ok (.bipush 20, 2) := by decide +kernel
theorem dChances_init_15 : decode prog_2_method_1_code 15 = .ok (.multianewarray 15 2, 4) := by decide +kernel
theorem dChances_init_19 : decode prog_2_method_1_code 19 = .ok (.putfield 17, 3) := by decide +kernel
theorem dChances_init_22 : decode prog_2_method_1_code 22 = .ok (.aload_n 0, 1) := by decide +kernel
theorem dChances_init_23 : decode prog_2_method_1_code 23 = .ok (.iconst 4, 1) := by decide +kernel
theorem dChances_init_24 : decode prog_2_method_1_code 24 = .ok (.newarray .int, 2) := by decide +kernel
theorem dChances_init_26 : decode prog_2_method_1_code 26 = .ok (.putfield 20, 3) := by decide +kernel
theorem dChances_init_29 : decode prog_2_method_1_code 29 = .ok (.aload_n 0, 1) := by decide +kernel
theorem dChances_init_30 : decode prog_2_method_1_code 30 = .ok (.new 23, 3) := by decide +kernel
theorem dChances_init_33 : decode prog_2_method_1_code 33 = .ok (.dup, 1) := by decide +kernel
theorem dChances_init_34 : decode prog_2_method_1_code 34 = .ok (.invokespecial 25, 3) := by decide +kernel
theorem dChances_init_37 : decode prog_2_method_1_code 37 = .ok (.putfield 26, 3) := by decide +kernel
theorem dChances_init_40 : decode prog_2_method_1_code 40 = .ok (.aload_n 0, 1) := by decide +kernel
theorem dChances_init_41 : decode prog_2_method_1_code 41 = .ok (.new 23, 3) := by decide +kernel
theorem dChances_init_44 : decode prog_2_method_1_code 44 = .ok (.dup, 1) := by decide +kernel
theorem dChances_init_45 : decode prog_2_method_1_code 45 = .ok (.invokespecial 25, 3) := by decide +kernel
theorem dChances_init_48 : decode prog_2_method_1_code 48 = .ok (.putfield 30, 3) := by decide +kernel
theorem dChances_init_51 : decode prog_2_method_1_code 51 = .ok (.aload_n 0, 1) := by decide +kernel
theorem dChances_init_52 : decode prog_2_method_1_code 52 = .ok (.iconst 0, 1) := by decide +kernel
theorem dChances_init_53 : decode prog_2_method_1_code 53 = .ok (.putfield 33, 3) := by decide +kernel
theorem dChances_init_56 : decode prog_2_method_1_code 56 = .ok (.aload_n 0, 1) := by decide +kernel
theorem dChances_init_57 : decode prog_2_method_1_code 57 = .ok (.iconst 0, 1) := by decide +kernel
theorem dChances_init_58 : decode prog_2_method_1_code 58 = .ok (.putfield 37, 3) := by decide +kernel
theorem dChances_init_61 : decode prog_2_method_1_code 61 = .ok (.return_, 1) := by decide +kernel
theorem dProduct_init_0 : decode prog_6_method_1_code 0 = .ok (.aload_n 0, 1) := by decide +kernel
theorem dProduct_init_1 : decode prog_6_method_1_code 1 = .ok (.invokespecial 1, 3) := by decide +kernel
theorem dProduct_init_4 : decode prog_6_method_1_code 4 = .ok (.aload_n 0, 1) := by decide +kernel
theorem dProduct_init_5 : decode prog_6_method_1_code 5 = .ok (.bipush 12, 2) := by decide +kernel
theorem dProduct_init_7 : decode prog_6_method_1_code 7 = .ok (.newarray .long, 2) := by decide +kernel
theorem dProduct_init_9 : decode prog_6_method_1_code 9 = .ok (.putfield 9, 3) := by decide +kernel
theorem dProduct_init_12 : decode prog_6_method_1_code 12 = .ok (.return_, 1) := by decide +kernel
theorem dMath_min_0 : decode prog_12_method_69_code 0 = .ok (.iload_n 0, 1) := by decide +kernel
theorem dMath_min_1 : decode prog_12_method_69_code 1 = .ok (.iload_n 1, 1) := by decide +kernel
theorem dMath_min_2 : decode prog_12_method_69_code 2 = .ok (.if_icmp .gt 7, 3) := by decide +kernel
theorem dMath_min_5 : decode prog_12_method_69_code 5 = .ok (.iload_n 0, 1) := by decide +kernel
theorem dMath_min_6 : decode prog_12_method_69_code 6 = .ok (.goto 4, 3) := by decide +kernel
theorem dMath_min_9 : decode prog_12_method_69_code 9 = .ok (.iload_n 1, 1) := by decide +kernel
theorem dMath_min_10 : decode prog_12_method_69_code 10 = .ok (.ireturn, 1) := by decide +kernel
theorem dMath_max_0 : decode prog_12_method_65_code 0 = .ok (.iload_n 0, 1) := by decide +kernel
theorem dMath_max_1 : decode prog_12_method_65_code 1 = .ok (.iload_n 1, 1) := by decide +kernel
theorem dMath_max_2 : decode prog_12_method_65_code 2 = .ok (.if_icmp .lt 7, 3) := by decide +kernel
theorem dMath_max_5 : decode prog_12_method_65_code 5 = .ok (.iload_n 0, 1) := by decide +kernel
theorem dMath_max_6 : decode prog_12_method_65_code 6 = .ok (.goto 4, 3) := by decide +kernel
theorem dMath_max_9 : decode prog_12_method_65_code 9 = .ok (.iload_n 1, 1) := by decide +kernel
theorem dMath_max_10 : decode prog_12_method_65_code 10 = .ok (.ireturn, 1) := by decide +kernel
theorem dWE_key_0 : decode prog_1_method_2_code 0 = .ok (.aload_n 0, 1) := by decide +kernel
theorem dWE_key_1 : decode prog_1_method_2_code 1 = .ok (.getfield 10, 3) := by decide +kernel
theorem dWE_key_4 : decode prog_1_method_2_code 4 = .ok (.iload_n 1, 1) := by decide +kernel
theorem dWE_key_5 : decode prog_1_method_2_code 5 = .ok (.invokevirtual 53, 3) := by decide +kernel
theorem dWE_key_8 : decode prog_1_method_2_code 8 = .ok (.ireturn, 1) := by decide +kernel
theorem dText_append_0 : decode prog_8_method_2_code 0 = .ok (.iload_n 1, 1) := by decide +kernel
theorem dText_append_1 : decode prog_8_method_2_code 1 = .ok (.bipush 32, 2) := by decide +kernel
theorem dText_append_3 : decode prog_8_method_2_code 3 = .ok (.if_icmp .lt 18, 3) := by decide +kernel
theorem dText_append_6 : decode prog_8_method_2_code 6 = .ok (.iload_n 1, 1) := by decide +kernel
theorem dText_append_7 : decode prog_8_method_2_code 7 = .ok (.bipush 126, 2) := by decide +kernel
theorem dText_append_9 : decode prog_8_method_2_code 9 = .ok (.if_icmp .gt 12, 3) := by decide +kernel
theorem dText_append_12 : decode prog_8_method_2_code 12 = .ok (.aload_n 0, 1) := by decide +kernel
theorem dText_append_13 : decode prog_8_method_2_code 13 = .ok (.getfield 19, 3) := by decide +kernel
theorem dText_append_16 : decode prog_8_method_2_code 16 = .ok (.bipush 40, 2) := by decide +kernel
theorem dText_append_18 : decode prog_8_method_2_code 18 = .ok (.if_icmp .lt 5, 3) := by decide +kernel
theorem dText_append_21 : decode prog_8_method_2_code 21 = .ok (.iconst 0, 1) := by decide +kernel
theorem dText_append_22 : decode prog_8_method_2_code 22 = .ok (.ireturn, 1) := by decide +kernel
theorem dText_append_23 : decode prog_8_method_2_code 23 = .ok (.aload_n 0, 1) := by decide +kernel
theorem dText_append_24 : decode prog_8_method_2_code 24 = .ok (.dup, 1) := by decide +kernel
theorem dText_append_25 : decode prog_8_method_2_code 25 = .ok (.getfield 19, 3) := by decide +kernel
theorem dText_append_28 : decode prog_8_method_2_code 28 = .ok (.iconst 1, 1) := by decide +kernel
theorem dText_append_29 : decode prog_8_method_2_code 29 = .ok (.iadd, 1) := by decide +kernel
theorem dText_append_30 : decode prog_8_method_2_code 30 = .ok (.putfield 19, 3) := by decide +kernel
theorem dText_append_33 : decode prog_8_method_2_code 33 = .ok (.iload_n 1, 1) := by decide +kernel
theorem dText_append_34 : decode prog_8_method_2_code 34 = .ok (.invokestatic 25, 3) := by decide +kernel
theorem dText_append_37 : decode prog_8_method_2_code 37 = .ok (.istore_n 2, 1) := by decide +kernel
theorem dText_append_38 : decode prog_8_method_2_code 38 = .ok (.iload_n 2, 1) := by decide +kernel
theorem dText_append_39 : decode prog_8_method_2_code 39 = .ok (.iconst (-1), 1) := by decide +kernel
theorem dText_append_40 : decode prog_8_method_2_code 40 = .ok (.if_icmp .ne 11, 3) := by decide +kernel
theorem dText_append_43 : decode prog_8_method_2_code 43 = .ok (.aload_n 0, 1) := by decide +kernel
theorem dText_append_44 : decode prog_8_method_2_code 44 = .ok (.iconst 0, 1) := by decide +kernel
theorem dText_append_45 : decode prog_8_method_2_code 45 = .ok (.putfield 22, 3) := by decide +kernel
theorem dText_append_48 : decode prog_8_method_2_code 48 = .ok (.goto 8, 3) := by decide +kernel
theorem dText_append_51 : decode prog_8_method_2_code 51 = .ok (.aload_n 0, 1) := by decide +kernel
theorem dText_append_52 : decode prog_8_method_2_code 52 = .ok (.iload_n 2, 1) := by decide +kernel
theorem dText_append_53 : decode prog_8_method_2_code 53 = .ok (.invokevirtual 31, 3) := by decide +kernel
theorem dText_append_56 : decode prog_8_method_2_code 56 = .ok (.iconst 1, 1) := by decide +kernel
theorem dText_append_57 : decode prog_8_method_2_code 57 = .ok (.ireturn, 1) := by decide +kernel
theorem dLetters_fold_0 : decode prog_4_method_2_code 0 = .ok (.iload_n 0, 1) := by decide +kernel
theorem dLetters_fold_1 : decode prog_4_method_2_code 1 = .ok (.bipush 65, 2) := by decide +kernel
theorem dLetters_fold_3 : decode prog_4_method_2_code 3 = .ok (.if_icmp .lt 17, 3) := by decide +kernel
theorem dLetters_fold_6 : decode prog_4_method_2_code 6 = .ok (.iload_n 0, 1) := by decide +kernel
theorem dLetters_fold_7 : decode prog_4_method_2_code 7 = .ok (.bipush 90, 2) := by decide +kernel
theorem dLetters_fold_9 : decode prog_4_method_2_code 9 = .ok (.if_icmp .gt 11, 3) := by decide +kernel
theorem dLetters_fold_12 : decode prog_4_method_2_code 12 = .ok (.iload_n 0, 1) := by decide +kernel
theorem dLetters_fold_13 : decode prog_4_method_2_code 13 = .ok (.bipush 65, 2) := by decide +kernel
theorem dLetters_fold_15 : decode prog_4_method_2_code 15 = .ok (.isub, 1) := by decide +kernel
theorem dLetters_fold_16 : decode prog_4_method_2_code 16 = .ok (.bipush 97, 2) := by decide +kernel
theorem dLetters_fold_18 : decode prog_4_method_2_code 18 = .ok (.iadd, 1) := by decide +kernel
theorem dLetters_fold_19 : decode prog_4_method_2_code 19 = .ok (.ireturn, 1) := by decide +kernel
theorem dLetters_fold_20 : decode prog_4_method_2_code 20 = .ok (.iload_n 0, 1) := by decide +kernel
theorem dLetters_fold_21 : decode prog_4_method_2_code 21 = .ok (.bipush 97, 2) := by decide +kernel
theorem dLetters_fold_23 : decode prog_4_method_2_code 23 = .ok (.if_icmp .lt 9, 3) := by decide +kernel
theorem dLetters_fold_26 : decode prog_4_method_2_code 26 = .ok (.iload_n 0, 1) := by decide +kernel
theorem dLetters_fold_27 : decode prog_4_method_2_code 27 = .ok (.bipush 122, 2) := by decide +kernel
theorem dLetters_fold_29 : decode prog_4_method_2_code 29 = .ok (.if_icmp .le 15, 3) := by decide +kernel
theorem dLetters_fold_32 : decode prog_4_method_2_code 32 = .ok (.iload_n 0, 1) := by decide +kernel
theorem dLetters_fold_33 : decode prog_4_method_2_code 33 = .ok (.bipush 48, 2) := by decide +kernel
theorem dLetters_fold_35 : decode prog_4_method_2_code 35 = .ok (.if_icmp .lt 13, 3) := by decide +kernel
theorem dLetters_fold_38 : decode prog_4_method_2_code 38 = .ok (.iload_n 0, 1) := by decide +kernel
theorem dLetters_fold_39 : decode prog_4_method_2_code 39 = .ok (.bipush 57, 2) := by decide +kernel
theorem dLetters_fold_41 : decode prog_4_method_2_code 41 = .ok (.if_icmp .gt 7, 3) := by decide +kernel
theorem dLetters_fold_44 : decode prog_4_method_2_code 44 = .ok (.iconst 1, 1) := by decide +kernel
theorem dLetters_fold_45 : decode prog_4_method_2_code 45 = .ok (.goto 4, 3) := by decide +kernel
theorem dLetters_fold_48 : decode prog_4_method_2_code 48 = .ok (.iconst 0, 1) := by decide +kernel
theorem dLetters_fold_49 : decode prog_4_method_2_code 49 = .ok (.istore_n 1, 1) := by decide +kernel
theorem dLetters_fold_50 : decode prog_4_method_2_code 50 = .ok (.iload_n 1, 1) := by decide +kernel
theorem dLetters_fold_51 : decode prog_4_method_2_code 51 = .ok (.ifCond .eq 7, 3) := by decide +kernel
theorem dLetters_fold_54 : decode prog_4_method_2_code 54 = .ok (.iload_n 0, 1) := by decide +kernel
theorem dLetters_fold_55 : decode prog_4_method_2_code 55 = .ok (.goto 4, 3) := by decide +kernel
theorem dLetters_fold_58 : decode prog_4_method_2_code 58 = .ok (.iconst (-1), 1) := by decide +kernel
theorem dLetters_fold_59 : decode prog_4_method_2_code 59 = .ok (.ireturn, 1) := by decide +kernel
theorem dText_lengthenRun_0 : decode prog_8_method_3_code 0 = .ok (.aload_n 0, 1) := by decide +kernel
theorem dText_lengthenRun_1 : decode prog_8_method_3_code 1 = .ok (.getfield 22, 3) := by decide +kernel
theorem dText_lengthenRun_4 : decode prog_8_method_3_code 4 = .ok (.ifCond .ne 32, 3) := by decide +kernel
theorem dText_lengthenRun_7 : decode prog_8_method_3_code 7 = .ok (.aload_n 0, 1) := by decide +kernel
theorem dText_lengthenRun_8 : decode prog_8_method_3_code 8 = .ok (.getfield 15, 3) := by decide +kernel
theorem dText_lengthenRun_11 : decode prog_8_method_3_code 11 = .ok (.bipush 20, 2) := by decide +kernel
theorem dText_lengthenRun_13 : decode prog_8_method_3_code 13 = .ok (.if_icmp .ge 23, 3) := by decide +kernel
theorem dText_lengthenRun_16 : decode prog_8_method_3_code 16 = .ok (.aload_n 0, 1) := by decide +kernel
theorem dText_lengthenRun_17 : decode prog_8_method_3_code 17 = .ok (.getfield 9, 3) := by decide +kernel
theorem dText_lengthenRun_20 : decode prog_8_method_3_code 20 = .ok (.aload_n 0, 1) := by decide +kernel
theorem dText_lengthenRun_21 : decode prog_8_method_3_code 21 = .ok (.getfield 15, 3) := by decide +kernel
theorem dText_lengthenRun_24 : decode prog_8_method_3_code 24 = .ok (.lconst 0, 1) := by decide +kernel
theorem dText_lengthenRun_25 : decode prog_8_method_3_code 25 = .ok (.lastore, 1) := by decide +kernel
theorem dText_lengthenRun_26 : decode prog_8_method_3_code 26 = .ok (.aload_n 0, 1) := by decide +kernel
theorem dText_lengthenRun_27 : decode prog_8_method_3_code 27 = .ok (.dup, 1) := by decide +kernel
theorem dText_lengthenRun_28 : decode prog_8_method_3_code 28 = .ok (.getfield 15, 3) := by decide +kernel
theorem dText_lengthenRun_31 : decode prog_8_method_3_code 31 = .ok (.iconst 1, 1) := by decide +kernel
theorem dText_lengthenRun_32 : decode prog_8_method_3_code 32 = .ok (.iadd, 1) := by decide +kernel
theorem dText_lengthenRun_33 : decode prog_8_method_3_code 33 = .ok (.putfield 15, 3) := by decide +kernel
theorem dText_lengthenRun_36 : decode prog_8_method_3_code 36 = .ok (.aload_n 0, 1) := by decide +kernel
theorem dText_lengthenRun_37 : decode prog_8_method_3_code 37 = .ok (.getfield 22, 3) := by decide +kernel
theorem dText_lengthenRun_40 : decode prog_8_method_3_code 40 = .ok (.bipush 8, 2) := by decide +kernel
theorem dText_lengthenRun_42 : decode prog_8_method_3_code 42 = .ok (.if_icmp .ge 37, 3) := by decide +kernel
theorem dText_lengthenRun_45 : decode prog_8_method_3_code 45 = .ok (.aload_n 0, 1) := by decide +kernel
theorem dText_lengthenRun_46 : decode prog_8_method_3_code 46 = .ok (.getfield 15, 3) := by decide +kernel
theorem dText_lengthenRun_49 : decode prog_8_method_3_code 49 = .ok (.ifCond .le 30, 3) := by decide +kernel
theorem dText_lengthenRun_52 : decode prog_8_method_3_code 52 = .ok (.aload_n 0, 1) := by decide +kernel
theorem dText_lengthenRun_53 : decode prog_8_method_3_code 53 = .ok (.getfield 15, 3) := by decide +kernel
theorem dText_lengthenRun_56 : decode prog_8_method_3_code 56 = .ok (.iconst 1, 1) := by decide +kernel
theorem dText_lengthenRun_57 : decode prog_8_method_3_code 57 = .ok (.isub, 1) := by decide +kernel
theorem dText_lengthenRun_58 : decode prog_8_method_3_code 58 = .ok (.istore_n 2, 1) := by decide +kernel
theorem dText_lengthenRun_59 : decode prog_8_method_3_code 59 = .ok (.aload_n 0, 1) := by decide +kernel
theorem dText_lengthenRun_60 : decode prog_8_method_3_code 60 = .ok (.getfield 9, 3) := by decide +kernel
theorem dText_lengthenRun_63 : decode prog_8_method_3_code 63 = .ok (.iload_n 2, 1) := by decide +kernel
theorem dText_lengthenRun_64 : decode prog_8_method_3_code 64 = .ok (.aload_n 0, 1) := by decide +kernel
theorem dText_lengthenRun_65 : decode prog_8_method_3_code 65 = .ok (.getfield 9, 3) := by decide +kernel
theorem dText_lengthenRun_68 : decode prog_8_method_3_code 68 = .ok (.iload_n 2, 1) := by decide +kernel
theorem dText_lengthenRun_69 : decode prog_8_method_3_code 69 = .ok (.laload, 1) := by decide +kernel
theorem dText_lengthenRun_70 : decode prog_8_method_3_code 70 = .ok (.aload_n 0, 1) := by decide +kernel
theorem dText_lengthenRun_71 : decode prog_8_method_3_code 71 = .ok (.getfield 22, 3) := by decide +kernel
theorem dText_lengthenRun_74 : decode prog_8_method_3_code 74 = .ok (.iload_n 1, 1) := by decide +kernel
theorem dText_lengthenRun_75 : decode prog_8_method_3_code 75 = .ok (.invokestatic 35, 3) := by decide +kernel
theorem dText_lengthenRun_78 : decode prog_8_method_3_code 78 = .ok (.lastore, 1) := by decide +kernel
theorem dText_lengthenRun_79 : decode prog_8_method_3_code 79 = .ok (.aload_n 0, 1) := by decide +kernel
theorem dText_lengthenRun_80 : decode prog_8_method_3_code 80 = .ok (.dup, 1) := by decide +kernel
theorem dText_lengthenRun_81 : decode prog_8_method_3_code 81 = .ok (.getfield 22, 3) := by decide +kernel
theorem dText_lengthenRun_84 : decode prog_8_method_3_code 84 = .ok (.iconst 1, 1) := by decide +kernel
theorem dText_lengthenRun_85 : decode prog_8_method_3_code 85 = .ok (.iadd, 1) := by decide +kernel
theorem dText_lengthenRun_86 : decode prog_8_method_3_code 86 = .ok (.putfield 22, 3) := by decide +kernel
theorem dText_lengthenRun_89 : decode prog_8_method_3_code 89 = .ok (.return_, 1) := by decide +kernel
theorem dLetters_with_0 : decode prog_4_method_3_code 0 = .ok (.lload_n 0, 1) := by decide +kernel
theorem dLetters_with_1 : decode prog_4_method_3_code 1 = .ok (.iload_n 3, 1) := by decide +kernel
theorem dLetters_with_2 : decode prog_4_method_3_code 2 = .ok (.i2l, 1) := by decide +kernel
theorem dLetters_with_3 : decode prog_4_method_3_code 3 = .ok (.bipush 8, 2) := by decide +kernel
theorem dLetters_with_5 : decode prog_4_method_3_code 5 = .ok (.iload_n 2, 1) := by decide +kernel
theorem dLetters_with_6 : decode prog_4_method_3_code 6 = .ok (.imul, 1) := by decide +kernel
theorem dLetters_with_7 : decode prog_4_method_3_code 7 = .ok (.lshl, 1) := by decide +kernel
theorem dLetters_with_8 : decode prog_4_method_3_code 8 = .ok (.lor, 1) := by decide +kernel
theorem dLetters_with_9 : decode prog_4_method_3_code 9 = .ok (.lreturn, 1) := by decide +kernel
theorem dWE_clear_0 : decode prog_1_method_3_code 0 = .ok (.aload_n 0, 1) := by decide +kernel
theorem dWE_clear_1 : decode prog_1_method_3_code 1 = .ok (.getfield 10, 3) := by decide +kernel
theorem dWE_clear_4 : decode prog_1_method_3_code 4 = .ok (.invokevirtual 57, 3) := by decide +kernel
theorem dWE_clear_7 : decode prog_1_method_3_code 7 = .ok (.ireturn, 1) := by decide +kernel
theorem dText_empty_0 : decode prog_8_method_4_code 0 = .ok (.aload_n 0, 1) := by decide +kernel
theorem dText_empty_1 : decode prog_8_method_4_code 1 = .ok (.getfield 19, 3) := by decide +kernel
theorem dText_empty_4 : decode prog_8_method_4_code 4 = .ok (.istore_n 1, 1) := by decide +kernel
theorem dText_empty_5 : decode prog_8_method_4_code 5 = .ok (.aload_n 0, 1) := by decide +kernel
theorem dText_empty_6 : decode prog_8_method_4_code 6 = .ok (.iconst 0, 1) := by decide +kernel
theorem dText_empty_7 : decode prog_8_method_4_code 7 = .ok (.putfield 19, 3) := by decide +kernel
theorem dText_empty_10 : decode prog_8_method_4_code 10 = .ok (.aload_n 0, 1) := by decide +kernel
theorem dText_empty_11 : decode prog_8_method_4_code 11 = .ok (.iconst 0, 1) := by decide +kernel
theorem dText_empty_12 : decode prog_8_method_4_code 12 = .ok (.putfield 22, 3) := by decide +kernel
theorem dText_empty_15 : decode prog_8_method_4_code 15 = .ok (.aload_n 0, 1) := by decide +kernel
theorem dText_empty_16 : decode prog_8_method_4_code 16 = .ok (.iconst 0, 1) := by decide +kernel
theorem dText_empty_17 : decode prog_8_method_4_code 17 = .ok (.putfield 15, 3) := by decide +kernel
theorem dText_empty_20 : decode prog_8_method_4_code 20 = .ok (.iload_n 1, 1) := by decide +kernel
theorem dText_empty_21 : decode prog_8_method_4_code 21 = .ok (.ireturn, 1) := by decide +kernel
theorem dWE_words_0 : decode prog_1_method_4_code 0 = .ok (.aload_n 0, 1) := by decide +kernel
theorem dWE_words_1 : decode prog_1_method_4_code 1 = .ok (.getfield 10, 3) := by decide +kernel
theorem dWE_words_4 : decode prog_1_method_4_code 4 = .ok (.getfield 61, 3) := by decide +kernel
theorem dWE_words_7 : decode prog_1_method_4_code 7 = .ok (.ireturn, 1) := by decide +kernel
theorem dWE_letter_0 : decode prog_1_method_5_code 0 = .ok (.aload_n 0, 1) := by decide +kernel
theorem dWE_letter_1 : decode prog_1_method_5_code 1 = .ok (.getfield 10, 3) := by decide +kernel
theorem dWE_letter_4 : decode prog_1_method_5_code 4 = .ok (.iload_n 1, 1) := by decide +kernel
theorem dWE_letter_5 : decode prog_1_method_5_code 5 = .ok (.invokevirtual 64, 3) := by decide +kernel
theorem dWE_letter_8 : decode prog_1_method_5_code 8 = .ok (.ifCond .ne 5, 3) := by decide +kernel
theorem dWE_letter_11 : decode prog_1_method_5_code 11 = .ok (.iconst (-1), 1) := by decide +kernel
theorem dWE_letter_12 : decode prog_1_method_5_code 12 = .ok (.ireturn, 1) := by decide +kernel
theorem dWE_letter_13 : decode prog_1_method_5_code 13 = .ok (.aload_n 0, 1) := by decide +kernel
theorem dWE_letter_14 : decode prog_1_method_5_code 14 = .ok (.getfield 10, 3) := by decide +kernel
theorem dWE_letter_17 : decode prog_1_method_5_code 17 = .ok (.getfield 68, 3) := by decide +kernel
theorem dWE_letter_20 : decode prog_1_method_5_code 20 = .ok (.iload_n 1, 1) := by decide +kernel
theorem dWE_letter_21 : decode prog_1_method_5_code 21 = .ok (.laload, 1) := by decide +kernel
theorem dWE_letter_22 : decode prog_1_method_5_code 22 = .ok (.iload_n 2, 1) := by decide +kernel
theorem dWE_letter_23 : decode prog_1_method_5_code 23 = .ok (.invokestatic 72, 3) := by decide +kernel
theorem dWE_letter_26 : decode prog_1_method_5_code 26 = .ok (.ireturn, 1) := by decide +kernel
theorem dText_hasWord_0 : decode prog_8_method_5_code 0 = .ok (.iload_n 1, 1) := by decide +kernel
theorem dText_hasWord_1 : decode prog_8_method_5_code 1 = .ok (.ifCond .lt 15, 3) := by decide +kernel
theorem dText_hasWord_4 : decode prog_8_method_5_code 4 = .ok (.iload_n 1, 1) := by decide +kernel
theorem dText_hasWord_5 : decode prog_8_method_5_code 5 = .ok (.aload_n 0, 1) := by decide +kernel
theorem dText_hasWord_6 : decode prog_8_method_5_code 6 = .ok (.getfield 15, 3) := by decide +kernel
theorem dText_hasWord_9 : decode prog_8_method_5_code 9 = .ok (.if_icmp .ge 7, 3) := by decide +kernel
theorem dText_hasWord_12 : decode prog_8_method_5_code 12 = .ok (.iconst 1, 1) := by decide +kernel
theorem dText_hasWord_13 : decode prog_8_method_5_code 13 = .ok (.goto 4, 3) := by decide +kernel
theorem dText_hasWord_16 : decode prog_8_method_5_code 16 = .ok (.iconst 0, 1) := by decide +kernel
theorem dText_hasWord_17 : decode prog_8_method_5_code 17 = .ok (.ireturn, 1) := by decide +kernel
theorem dLetters_at_0 : decode prog_4_method_4_code 0 = .ok (.iload_n 2, 1) := by decide +kernel
theorem dLetters_at_1 : decode prog_4_method_4_code 1 = .ok (.ifCond .lt 9, 3) := by decide +kernel
theorem dLetters_at_4 : decode prog_4_method_4_code 4 = .ok (.iload_n 2, 1) := by decide +kernel
theorem dLetters_at_5 : decode prog_4_method_4_code 5 = .ok (.bipush 8, 2) := by decide +kernel
theorem dLetters_at_7 : decode prog_4_method_4_code 7 = .ok (.if_icmp .lt 5, 3) := by decide +kernel
theorem dLetters_at_10 : decode prog_4_method_4_code 10 = .ok (.iconst (-1), 1) := by decide +kernel
theorem dLetters_at_11 : decode prog_4_method_4_code 11 = .ok (.ireturn, 1) := by decide +kernel
theorem dLetters_at_12 : decode prog_4_method_4_code 12 = .ok (.lload_n 0, 1) := by decide +kernel
theorem dLetters_at_13 : decode prog_4_method_4_code 13 = .ok (.bipush 8, 2) := by decide +kernel
theorem dLetters_at_15 : decode prog_4_method_4_code 15 = .ok (.iload_n 2, 1) := by decide +kernel
theorem dLetters_at_16 : decode prog_4_method_4_code 16 = .ok (.imul, 1) := by decide +kernel
theorem dLetters_at_17 : decode prog_4_method_4_code 17 = .ok (.lushr, 1) := by decide +kernel
theorem dLetters_at_18 : decode prog_4_method_4_code 18 = .ok (.l2i, 1) := by decide +kernel
theorem dLetters_at_19 : decode prog_4_method_4_code 19 = .ok (.sipush 255, 3) := by decide +kernel
theorem dLetters_at_22 : decode prog_4_method_4_code 22 = .ok (.iand, 1) := by decide +kernel
theorem dLetters_at_23 : decode prog_4_method_4_code 23 = .ok (.istore_n 3, 1) := by decide +kernel
theorem dLetters_at_24 : decode prog_4_method_4_code 24 = .ok (.iload_n 3, 1) := by decide +kernel
theorem dLetters_at_25 : decode prog_4_method_4_code 25 = .ok (.ifCond .ne 7, 3) := by decide +kernel
theorem dLetters_at_28 : decode prog_4_method_4_code 28 = .ok (.iconst (-1), 1) := by decide +kernel
theorem dLetters_at_29 : decode prog_4_method_4_code 29 = .ok (.goto 4, 3) := by decide +kernel
theorem dLetters_at_32 : decode prog_4_method_4_code 32 = .ok (.iload_n 3, 1) := by decide +kernel
theorem dLetters_at_33 : decode prog_4_method_4_code 33 = .ok (.ireturn, 1) := by decide +kernel
theorem dWE_train_0 : decode prog_1_method_6_code 0 = .ok (.iload_n 1, 1) := by decide +kernel
theorem dWE_train_1 : decode prog_1_method_6_code 1 = .ok (.invokestatic 78, 3) := by decide +kernel
theorem dWE_train_4 : decode prog_1_method_6_code 4 = .ok (.ifCond .eq 11, 3) := by decide +kernel
theorem dWE_train_7 : decode prog_1_method_6_code 7 = .ok (.aload_n 0, 1) := by decide +kernel
theorem dWE_train_8 : decode prog_1_method_6_code 8 = .ok (.iload_n 2, 1) := by decide +kernel
theorem dWE_train_9 : decode prog_1_method_6_code 9 = .ok (.invokevirtual 81, 3) := by decide +kernel
theorem dWE_train_12 : decode prog_1_method_6_code 12 = .ok (.ifCond .ne 5, 3) := by decide +kernel
theorem dWE_train_15 : decode prog_1_method_6_code 15 = .ok (.iconst (-1), 1) := by decide +kernel
theorem dWE_train_16 : decode prog_1_method_6_code 16 = .ok (.ireturn, 1) := by decide +kernel
theorem dWE_train_17 : decode prog_1_method_6_code 17 = .ok (.aload_n 0, 1) := by decide +kernel
theorem dWE_train_18 : decode prog_1_method_6_code 18 = .ok (.getfield 19, 3) := by decide +kernel
theorem dWE_train_21 : decode prog_1_method_6_code 21 = .ok (.iload_n 1, 1) := by decide +kernel
theorem dWE_train_22 : decode prog_1_method_6_code 22 = .ok (.invokevirtual 84, 3) := by decide +kernel
theorem dWE_train_25 : decode prog_1_method_6_code 25 = .ok (.ifnull 6, 3) := by decide +kernel
theorem dWE_train_28 : decode prog_1_method_6_code 28 = .ok (.bipush (-2), 2) := by decide +kernel
theorem dWE_train_30 : decode prog_1_method_6_code 30 = .ok (.ireturn, 1) := by decide +kernel
theorem dWE_train_31 : decode prog_1_method_6_code 31 = .ok (.aload_n 0, 1) := by decide +kernel
theorem dWE_train_32 : decode prog_1_method_6_code 32 = .ok (.getfield 19, 3) := by decide +kernel
theorem dWE_train_35 : decode prog_1_method_6_code 35 = .ok (.invokevirtual 88, 3) := by decide +kernel
theorem dWE_train_38 : decode prog_1_method_6_code 38 = .ok (.bipush 10, 2) := by decide +kernel
theorem dWE_train_40 : decode prog_1_method_6_code 40 = .ok (.if_icmp .lt 6, 3) := by decide +kernel
theorem dWE_train_43 : decode prog_1_method_6_code 43 = .ok (.bipush (-4), 2) := by decide +kernel
theorem dWE_train_45 : decode prog_1_method_6_code 45 = .ok (.ireturn, 1) := by decide +kernel
theorem dWE_train_46 : decode prog_1_method_6_code 46 = .ok (.aload_n 0, 1) := by decide +kernel
theorem dWE_train_47 : decode prog_1_method_6_code 47 = .ok (.getfield 10, 3) := by decide +kernel
theorem dWE_train_50 : decode prog_1_method_6_code 50 = .ok (.getfield 61, 3) := by decide +kernel
theorem dWE_train_53 : decode prog_1_method_6_code 53 = .ok (.invokestatic 91, 3) := by decide +kernel
theorem dWE_train_56 : decode prog_1_method_6_code 56 = .ok (.istore_n 3, 1) := by decide +kernel
theorem dWE_train_57 : decode prog_1_method_6_code 57 = .ok (.aload_n 0, 1) := by decide +kernel
theorem dWE_train_58 : decode prog_1_method_6_code 58 = .ok (.getfield 29, 3) := by decide +kernel
theorem dWE_train_61 : decode prog_1_method_6_code 61 = .ok (.iload_n 3, 1) := by decide +kernel
theorem dWE_train_62 : decode prog_1_method_6_code 62 = .ok (.invokevirtual 95, 3) := by decide +kernel
theorem dWE_train_65 : decode prog_1_method_6_code 65 = .ok (.ifCond .ne 6, 3) := by decide +kernel
theorem dWE_train_68 : decode prog_1_method_6_code 68 = .ok (.bipush (-5), 2) := by decide +kernel
theorem dWE_train_70 : decode prog_1_method_6_code 70 = .ok (.ireturn, 1) := by decide +kernel
theorem dWE_train_71 : decode prog_1_method_6_code 71 = .ok (.aload_n 0, 1) := by decide +kernel
theorem dWE_train_72 : decode prog_1_method_6_code 72 = .ok (.iload_n 1, 1) := by decide +kernel
theorem dWE_train_73 : decode prog_1_method_6_code 73 = .ok (.new 98, 3) := by decide +kernel
theorem dWE_train_76 : decode prog_1_method_6_code 76 = .ok (.dup, 1) := by decide +kernel
theorem dWE_train_77 : decode prog_1_method_6_code 77 = .ok (.iload_n 2, 1) := by decide +kernel
theorem dWE_train_78 : decode prog_1_method_6_code 78 = .ok (.aload_n 0, 1) := by decide +kernel
theorem dWE_train_79 : decode prog_1_method_6_code 79 = .ok (.getfield 10, 3) := by decide +kernel
theorem dWE_train_82 : decode prog_1_method_6_code 82 = .ok (.invokevirtual 100, 3) := by decide +kernel
theorem dWE_train_85 : decode prog_1_method_6_code 85 = .ok (.invokespecial 104, 3) := by decide +kernel
theorem dWE_train_88 : decode prog_1_method_6_code 88 = .ok (.iload_n 3, 1) := by decide +kernel
theorem dWE_train_89 : decode prog_1_method_6_code 89 = .ok (.invokevirtual 107, 3) := by decide +kernel
theorem dWE_train_92 : decode prog_1_method_6_code 92 = .ok (.iload_n 3, 1) := by decide +kernel
theorem dWE_train_93 : decode prog_1_method_6_code 93 = .ok (.ireturn, 1) := by decide +kernel
theorem dWE_isId_0 : decode prog_1_method_20_code 0 = .ok (.iload_n 0, 1) := by decide +kernel
theorem dWE_isId_1 : decode prog_1_method_20_code 1 = .ok (.ifCond .lt 13, 3) := by decide +kernel
theorem dWE_isId_4 : decode prog_1_method_20_code 4 = .ok (.iload_n 0, 1) := by decide +kernel
theorem dWE_isId_5 : decode prog_1_method_20_code 5 = .ok (.bipush 32, 2) := by decide +kernel
theorem dWE_isId_7 : decode prog_1_method_20_code 7 = .ok (.if_icmp .ge 7, 3) := by decide +kernel
theorem dWE_isId_10 : decode prog_1_method_20_code 10 = .ok (.iconst 1, 1) := by decide +kernel
theorem dWE_isId_11 : decode prog_1_method_20_code 11 = .ok (.goto 4, 3) := by decide +kernel
theorem dWE_isId_14 : decode prog_1_method_20_code 14 = .ok (.iconst 0, 1) := by decide +kernel
theorem dWE_isId_15 : decode prog_1_method_20_code 15 = .ok (.ireturn, 1) := by decide +kernel
theorem dWE_isClass_0 : decode prog_1_method_19_code 0 = .ok (.iload_n 1, 1) := by decide +kernel
theorem dWE_isClass_1 : decode prog_1_method_19_code 1 = .ok (.ifCond .lt 15, 3) := by decide +kernel
theorem dWE_isClass_4 : decode prog_1_method_19_code 4 = .ok (.iload_n 1, 1) := by decide +kernel
theorem dWE_isClass_5 : decode prog_1_method_19_code 5 = .ok (.aload_n 0, 1) := by decide +kernel
theorem dWE_isClass_6 : decode prog_1_method_19_code 6 = .ok (.getfield 49, 3) := by decide +kernel
theorem dWE_isClass_9 : decode prog_1_method_19_code 9 = .ok (.if_icmp .ge 7, 3) := by decide +kernel
theorem dWE_isClass_12 : decode prog_1_method_19_code 12 = .ok (.iconst 1, 1) := by decide +kernel
theorem dWE_isClass_13 : decode prog_1_method_19_code 13 = .ok (.goto 4, 3) := by decide +kernel
theorem dWE_isClass_16 : decode prog_1_method_19_code 16 = .ok (.iconst 0, 1) := by decide +kernel
theorem dWE_isClass_17 : decode prog_1_method_19_code 17 = .ok (.ireturn, 1) := by decide +kernel
theorem dShelf_find_0 : decode prog_7_method_2_code 0 = .ok (.iload_n 1, 1) := by decide +kernel
theorem dShelf_find_1 : decode prog_7_method_2_code 1 = .ok (.invokestatic 21, 3) := by decide +kernel
theorem dShelf_find_4 : decode prog_7_method_2_code 4 = .ok (.ifCond .eq 12, 3) := by decide +kernel
theorem dShelf_find_7 : decode prog_7_method_2_code 7 = .ok (.aload_n 0, 1) := by decide +kernel
theorem dShelf_find_8 : decode prog_7_method_2_code 8 = .ok (.getfield 11, 3) := by decide +kernel
theorem dShelf_find_11 : decode prog_7_method_2_code 11 = .ok (.iload_n 1, 1) := by decide +kernel
theorem dShelf_find_12 : decode prog_7_method_2_code 12 = .ok (.aaload, 1) := by decide +kernel
theorem dShelf_find_13 : decode prog_7_method_2_code 13 = .ok (.goto 4, 3) := by decide +kernel
theorem dShelf_find_16 : decode prog_7_method_2_code 16 = .ok (.aconst_null, 1) := by decide +kernel
theorem dShelf_find_17 : decode prog_7_method_2_code 17 = .ok (.areturn, 1) := by decide +kernel
theorem dShelf_size_0 : decode prog_7_method_5_code 0 = .ok (.iconst 0, 1) := by decide +kernel
theorem dShelf_size_1 : decode prog_7_method_5_code 1 = .ok (.istore_n 1, 1) := by decide +kernel
theorem dShelf_size_2 : decode prog_7_method_5_code 2 = .ok (.aload_n 0, 1) := by decide +kernel
theorem dShelf_size_3 : decode prog_7_method_5_code 3 = .ok (.getfield 11, 3) := by decide +kernel
theorem dShelf_size_6 : decode prog_7_method_5_code 6 = .ok (.astore_n 2, 1) := by decide +kernel
theorem dShelf_size_7 : decode prog_7_method_5_code 7 = .ok (.aload_n 2, 1) := by decide +kernel
theorem dShelf_size_8 : decode prog_7_method_5_code 8 = .ok (.arraylength, 1) := by decide +kernel
theorem dShelf_size_9 : decode prog_7_method_5_code 9 = .ok (.istore_n 3, 1) := by decide +kernel
theorem dShelf_size_10 : decode prog_7_method_5_code 10 = .ok (.iconst 0, 1) := by decide +kernel
theorem dShelf_size_11 : decode prog_7_method_5_code 11 = .ok (.istore 4, 2) := by decide +kernel
theorem dShelf_size_13 : decode prog_7_method_5_code 13 = .ok (.iload 4, 2) := by decide +kernel
theorem dShelf_size_15 : decode prog_7_method_5_code 15 = .ok (.iload_n 3, 1) := by decide +kernel
theorem dShelf_size_16 : decode prog_7_method_5_code 16 = .ok (.if_icmp .ge 23, 3) := by decide +kernel
theorem dShelf_size_19 : decode prog_7_method_5_code 19 = .ok (.aload_n 2, 1) := by decide +kernel
theorem dShelf_size_20 : decode prog_7_method_5_code 20 = .ok (.iload 4, 2) := by decide +kernel
theorem dShelf_size_22 : decode prog_7_method_5_code 22 = .ok (.aaload, 1) := by decide +kernel
theorem dShelf_size_23 : decode prog_7_method_5_code 23 = .ok (.astore 5, 2) := by decide +kernel
theorem dShelf_size_25 : decode prog_7_method_5_code 25 = .ok (.aload 5, 2) := by decide +kernel
theorem dShelf_size_27 : decode prog_7_method_5_code 27 = .ok (.ifnull 6, 3) := by decide +kernel
theorem dShelf_size_30 : decode prog_7_method_5_code 30 = .ok (.iinc 1 1, 3) := by decide +kernel
theorem dShelf_size_33 : decode prog_7_method_5_code 33 = .ok (.iinc 4 1, 3) := by decide +kernel
theorem dShelf_size_36 : decode prog_7_method_5_code 36 = .ok (.goto (-23), 3) := by decide +kernel
theorem dShelf_size_39 : decode prog_7_method_5_code 39 = .ok (.iload_n 1, 1) := by decide +kernel
theorem dShelf_size_40 : decode prog_7_method_5_code 40 = .ok (.ireturn, 1) := by decide +kernel
theorem dWE_blocksToTrain_0 : decode prog_1_method_21_code 0 = .ok (.iconst 1, 1) := by decide +kernel
theorem dWE_blocksToTrain_1 : decode prog_1_method_21_code 1 = .ok (.iload_n 0, 1) := by decide +kernel
theorem dWE_blocksToTrain_2 : decode prog_1_method_21_code 2 = .ok (.iconst 4, 1) := by decide +kernel
theorem dWE_blocksToTrain_3 : decode prog_1_method_21_code 3 = .ok (.iadd, 1) := by decide +kernel
theorem dWE_blocksToTrain_4 : decode prog_1_method_21_code 4 = .ok (.iconst 1, 1) := by decide +kernel
theorem dWE_blocksToTrain_5 : decode prog_1_method_21_code 5 = .ok (.isub, 1) := by decide +kernel
theorem dWE_blocksToTrain_6 : decode prog_1_method_21_code 6 = .ok (.iconst 4, 1) := by decide +kernel
theorem dWE_blocksToTrain_7 : decode prog_1_method_21_code 7 = .ok (.idiv, 1) := by decide +kernel
theorem dWE_blocksToTrain_8 : decode prog_1_method_21_code 8 = .ok (.iadd, 1) := by decide +kernel
theorem dWE_blocksToTrain_9 : decode prog_1_method_21_code 9 = .ok (.ireturn, 1) := by decide +kernel
theorem dLog_hasRoomFor_0 : decode prog_5_method_2_code 0 = .ok (.aload_n 0, 1) := by decide +kernel
theorem dLog_hasRoomFor_1 : decode prog_5_method_2_code 1 = .ok (.getfield 28, 3) := by decide +kernel
theorem dLog_hasRoomFor_4 : decode prog_5_method_2_code 4 = .ok (.iload_n 1, 1) := by decide +kernel
theorem dLog_hasRoomFor_5 : decode prog_5_method_2_code 5 = .ok (.iadd, 1) := by decide +kernel
theorem dLog_hasRoomFor_6 : decode prog_5_method_2_code 6 = .ok (.bipush 24, 2) := by decide +kernel
theorem dLog_hasRoomFor_8 : decode prog_5_method_2_code 8 = .ok (.if_icmp .gt 7, 3) := by decide +kernel
theorem dLog_hasRoomFor_11 : decode prog_5_method_2_code 11 = .ok (.iconst 1, 1) := by decide +kernel
theorem dLog_hasRoomFor_12 : decode prog_5_method_2_code 12 = .ok (.goto 4, 3) := by decide +kernel
theorem dLog_hasRoomFor_15 : decode prog_5_method_2_code 15 = .ok (.iconst 0, 1) := by decide +kernel
theorem dLog_hasRoomFor_16 : decode prog_5_method_2_code 16 = .ok (.ireturn, 1) := by decide +kernel
theorem dText_copyOfWords_0 : decode prog_8_method_6_code 0 = .ok (.aload_n 0, 1) := by decide +kernel
theorem dText_copyOfWords_1 : decode prog_8_method_6_code 1 = .ok (.getfield 9, 3) := by decide +kernel
theorem dText_copyOfWords_4 : decode prog_8_method_6_code 4 = .ok (.aload_n 0, 1) := by decide +kernel
theorem dText_copyOfWords_5 : decode prog_8_method_6_code 5 = .ok (.getfield 15, 3) := by decide +kernel
theorem dText_copyOfWords_8 : decode prog_8_method_6_code 8 = .ok (.invokestatic 39, 3) := by decide +kernel
theorem dText_copyOfWords_11 : decode prog_8_method_6_code 11 = .ok (.areturn, 1) := by decide +kernel
theorem dArrays_copyOf_0 : decode prog_14_method_124_code 0 = .ok (.iload_n 1, 1) := by decide +kernel
theorem dArrays_copyOf_1 : decode prog_14_method_124_code 1 = .ok (.aload_n 0, 1) := by decide +kernel
theorem dArrays_copyOf_2 : decode prog_14_method_124_code 2 = .ok (.arraylength, 1) := by decide +kernel
theorem dArrays_copyOf_3 : decode prog_14_method_124_code 3 = .ok (.if_icmp .ne 11, 3) := by decide +kernel
theorem dArrays_copyOf_6 : decode prog_14_method_124_code 6 = .ok (.aload_n 0, 1) := by decide +kernel
theorem dArrays_copyOf_7 : decode prog_14_method_124_code 7 = .ok (.invokevirtual 319, 3) := by decide +kernel
theorem dArrays_copyOf_10 : decode prog_14_method_124_code 10 = .ok (.checkcast 320, 3) := by decide +kernel
theorem dArrays_copyOf_13 : decode prog_14_method_124_code 13 = .ok (.areturn, 1) := by decide +kernel
theorem dArrays_copyOf_14 : decode prog_14_method_124_code 14 = .ok (.iload_n 1, 1) := by decide +kernel
theorem dArrays_copyOf_15 : decode prog_14_method_124_code 15 = .ok (.newarray .long, 2) := by decide +kernel
theorem dArrays_copyOf_17 : decode prog_14_method_124_code 17 = .ok (.astore_n 2, 1) := by decide +kernel
theorem dArrays_copyOf_18 : decode prog_14_method_124_code 18 = .ok (.aload_n 0, 1) := by decide +kernel
theorem dArrays_copyOf_19 : decode prog_14_method_124_code 19 = .ok (.iconst 0, 1) := by decide +kernel
theorem dArrays_copyOf_20 : decode prog_14_method_124_code 20 = .ok (.aload_n 2, 1) := by decide +kernel
theorem dArrays_copyOf_21 : decode prog_14_method_124_code 21 = .ok (.iconst 0, 1) := by decide +kernel
theorem dArrays_copyOf_22 : decode prog_14_method_124_code 22 = .ok (.aload_n 0, 1) := by decide +kernel
theorem dArrays_copyOf_23 : decode prog_14_method_124_code 23 = .ok (.arraylength, 1) := by decide +kernel
theorem dArrays_copyOf_24 : decode prog_14_method_124_code 24 = .ok (.iload_n 1, 1) := by decide +kernel
theorem dArrays_copyOf_25 : decode prog_14_method_124_code 25 = .ok (.invokestatic 304, 3) := by decide +kernel
theorem dArrays_copyOf_28 : decode prog_14_method_124_code 28 = .ok (.invokestatic 150, 3) := by decide +kernel
theorem dArrays_copyOf_31 : decode prog_14_method_124_code 31 = .ok (.aload_n 2, 1) := by decide +kernel
theorem dArrays_copyOf_32 : decode prog_14_method_124_code 32 = .ok (.areturn, 1) := by decide +kernel
theorem dDocument_init_0 : decode prog_3_method_1_code 0 = .ok (.aload_n 0, 1) := by decide +kernel
theorem dDocument_init_1 : decode prog_3_method_1_code 1 = .ok (.invokespecial 1, 3) := by decide +kernel
theorem dDocument_init_4 : decode prog_3_method_1_code 4 = .ok (.aload_n 0, 1) := by decide +kernel
theorem dDocument_init_5 : decode prog_3_method_1_code 5 = .ok (.iload_n 1, 1) := by decide +kernel
theorem dDocument_init_6 : decode prog_3_method_1_code 6 = .ok (.putfield 7, 3) := by decide +kernel
theorem dDocument_init_9 : decode prog_3_method_1_code 9 = .ok (.aload_n 0, 1) := by decide +kernel
theorem dDocument_init_10 : decode prog_3_method_1_code 10 = .ok (.aload_n 2, 1) := by decide +kernel
theorem dDocument_init_11 : decode prog_3_method_1_code 11 = .ok (.putfield 13, 3) := by decide +kernel
theorem dDocument_init_14 : decode prog_3_method_1_code 14 = .ok (.return_, 1) := by decide +kernel
theorem dWE_change_0 : decode prog_1_method_22_code 0 = .ok (.aload_n 0, 1) := by decide +kernel
theorem dWE_change_1 : decode prog_1_method_22_code 1 = .ok (.getfield 29, 3) := by decide +kernel
theorem dWE_change_4 : decode prog_1_method_22_code 4 = .ok (.iload_n 1, 1) := by decide +kernel
theorem dWE_change_5 : decode prog_1_method_22_code 5 = .ok (.aload_n 2, 1) := by decide +kernel
theorem dWE_change_6 : decode prog_1_method_22_code 6 = .ok (.iload_n 3, 1) := by decide +kernel
theorem dWE_change_7 : decode prog_1_method_22_code 7 = .ok (.invokevirtual 152, 3) := by decide +kernel
theorem dWE_change_10 : decode prog_1_method_22_code 10 = .ok (.aload_n 0, 1) := by decide +kernel
theorem dWE_change_11 : decode prog_1_method_22_code 11 = .ok (.getfield 19, 3) := by decide +kernel
theorem dWE_change_14 : decode prog_1_method_22_code 14 = .ok (.iload_n 1, 1) := by decide +kernel
theorem dWE_change_15 : decode prog_1_method_22_code 15 = .ok (.aload_n 2, 1) := by decide +kernel
theorem dWE_change_16 : decode prog_1_method_22_code 16 = .ok (.invokevirtual 155, 3) := by decide +kernel
theorem dWE_change_19 : decode prog_1_method_22_code 19 = .ok (.return_, 1) := by decide +kernel
theorem dLog_write_0 : decode prog_5_method_3_code 0 = .ok (.aload_n 0, 1) := by decide +kernel
theorem dLog_write_1 : decode prog_5_method_3_code 1 = .ok (.getfield 24, 3) := by decide +kernel
theorem dLog_write_4 : decode prog_5_method_3_code 4 = .ok (.bipush 24, 2) := by decide +kernel
theorem dLog_write_6 : decode prog_5_method_3_code 6 = .ok (.if_icmp .ge 53, 3) := by decide +kernel
theorem dLog_write_9 : decode prog_5_method_3_code 9 = .ok (.aload_n 0, 1) := by decide +kernel
theorem dLog_write_10 : decode prog_5_method_3_code 10 = .ok (.getfield 9, 3) := by decide +kernel
theorem dLog_write_13 : decode prog_5_method_3_code 13 = .ok (.aload_n 0, 1) := by decide +kernel
theorem dLog_write_14 : decode prog_5_method_3_code 14 = .ok (.getfield 24, 3) := by decide +kernel
theorem dLog_write_17 : decode prog_5_method_3_code 17 = .ok (.iload_n 1, 1) := by decide +kernel
theorem dLog_write_18 : decode prog_5_method_3_code 18 = .ok (.iastore, 1) := by decide +kernel
theorem dLog_write_19 : decode prog_5_method_3_code 19 = .ok (.aload_n 0, 1) := by decide +kernel
theorem dLog_write_20 : decode prog_5_method_3_code 20 = .ok (.getfield 20, 3) := by decide +kernel
theorem dLog_write_23 : decode prog_5_method_3_code 23 = .ok (.aload_n 0, 1) := by decide +kernel
theorem dLog_write_24 : decode prog_5_method_3_code 24 = .ok (.getfield 24, 3) := by decide +kernel
theorem dLog_write_27 : decode prog_5_method_3_code 27 = .ok (.aload_n 2, 1) := by decide +kernel
theorem dLog_write_28 : decode prog_5_method_3_code 28 = .ok (.aastore, 1) := by decide +kernel
theorem dLog_write_29 : decode prog_5_method_3_code 29 = .ok (.aload_n 0, 1) := by decide +kernel
theorem dLog_write_30 : decode prog_5_method_3_code 30 = .ok (.getfield 15, 3) := by decide +kernel
theorem dLog_write_33 : decode prog_5_method_3_code 33 = .ok (.aload_n 0, 1) := by decide +kernel
theorem dLog_write_34 : decode prog_5_method_3_code 34 = .ok (.getfield 24, 3) := by decide +kernel
theorem dLog_write_37 : decode prog_5_method_3_code 37 = .ok (.iload_n 3, 1) := by decide +kernel
theorem dLog_write_38 : decode prog_5_method_3_code 38 = .ok (.iastore, 1) := by decide +kernel
theorem dLog_write_39 : decode prog_5_method_3_code 39 = .ok (.aload_n 0, 1) := by decide +kernel
theorem dLog_write_40 : decode prog_5_method_3_code 40 = .ok (.dup, 1) := by decide +kernel
theorem dLog_write_41 : decode prog_5_method_3_code 41 = .ok (.getfield 24, 3) := by decide +kernel
theorem dLog_write_44 : decode prog_5_method_3_code 44 = .ok (.iconst 1, 1) := by decide +kernel
theorem dLog_write_45 : decode prog_5_method_3_code 45 = .ok (.iadd, 1) := by decide +kernel
theorem dLog_write_46 : decode prog_5_method_3_code 46 = .ok (.putfield 24, 3) := by decide +kernel
theorem dLog_write_49 : decode prog_5_method_3_code 49 = .ok (.aload_n 0, 1) := by decide +kernel
theorem dLog_write_50 : decode prog_5_method_3_code 50 = .ok (.dup, 1) := by decide +kernel
theorem dLog_write_51 : decode prog_5_method_3_code 51 = .ok (.getfield 28, 3) := by decide +kernel
theorem dLog_write_54 : decode prog_5_method_3_code 54 = .ok (.iload_n 3, 1) := by decide +kernel
theorem dLog_write_55 : decode prog_5_method_3_code 55 = .ok (.iadd, 1) := by decide +kernel
theorem dLog_write_56 : decode prog_5_method_3_code 56 = .ok (.putfield 28, 3) := by decide +kernel
theorem dLog_write_59 : decode prog_5_method_3_code 59 = .ok (.return_, 1) := by decide +kernel
theorem dShelf_put_0 : decode prog_7_method_3_code 0 = .ok (.iload_n 1, 1) := by decide +kernel
theorem dShelf_put_1 : decode prog_7_method_3_code 1 = .ok (.invokestatic 21, 3) := by decide +kernel
theorem dShelf_put_4 : decode prog_7_method_3_code 4 = .ok (.ifCond .eq 10, 3) := by decide +kernel
theorem dShelf_put_7 : decode prog_7_method_3_code 7 = .ok (.aload_n 0, 1) := by decide +kernel
theorem dShelf_put_8 : decode prog_7_method_3_code 8 = .ok (.getfield 11, 3) := by decide +kernel
theorem dShelf_put_11 : decode prog_7_method_3_code 11 = .ok (.iload_n 1, 1) := by decide +kernel
theorem dShelf_put_12 : decode prog_7_method_3_code 12 = .ok (.aload_n 2, 1) := by decide +kernel
theorem dShelf_put_13 : decode prog_7_method_3_code 13 = .ok (.aastore, 1) := by decide +kernel
theorem dShelf_put_14 : decode prog_7_method_3_code 14 = .ok (.return_, 1) := by decide +kernel
theorem dWE_untrain_0 : decode prog_1_method_7_code 0 = .ok (.iload_n 1, 1) := by decide +kernel
theorem dWE_untrain_1 : decode prog_1_method_7_code 1 = .ok (.invokestatic 78, 3) := by decide +kernel
theorem dWE_untrain_4 : decode prog_1_method_7_code 4 = .ok (.ifCond .ne 5, 3) := by decide +kernel
theorem dWE_untrain_7 : decode prog_1_method_7_code 7 = .ok (.iconst (-1), 1) := by decide +kernel
theorem dWE_untrain_8 : decode prog_1_method_7_code 8 = .ok (.ireturn, 1) := by decide +kernel
theorem dWE_untrain_9 : decode prog_1_method_7_code 9 = .ok (.aload_n 0, 1) := by decide +kernel
theorem dWE_untrain_10 : decode prog_1_method_7_code 10 = .ok (.getfield 19, 3) := by decide +kernel
theorem dWE_untrain_13 : decode prog_1_method_7_code 13 = .ok (.iload_n 1, 1) := by decide +kernel
theorem dWE_untrain_14 : decode prog_1_method_7_code 14 = .ok (.invokevirtual 84, 3) := by decide +kernel
theorem dWE_untrain_17 : decode prog_1_method_7_code 17 = .ok (.astore_n 2, 1) := by decide +kernel
theorem dWE_untrain_18 : decode prog_1_method_7_code 18 = .ok (.aload_n 2, 1) := by decide +kernel
theorem dWE_untrain_19 : decode prog_1_method_7_code 19 = .ok (.ifnonnull 6, 3) := by decide +kernel
theorem dWE_untrain_22 : decode prog_1_method_7_code 22 = .ok (.bipush (-3), 2) := by decide +kernel
theorem dWE_untrain_24 : decode prog_1_method_7_code 24 = .ok (.ireturn, 1) := by decide +kernel
theorem dWE_untrain_25 : decode prog_1_method_7_code 25 = .ok (.aload_n 0, 1) := by decide +kernel
theorem dWE_untrain_26 : decode prog_1_method_7_code 26 = .ok (.getfield 29, 3) := by decide +kernel
theorem dWE_untrain_29 : decode prog_1_method_7_code 29 = .ok (.iconst 1, 1) := by decide +kernel
theorem dWE_untrain_30 : decode prog_1_method_7_code 30 = .ok (.invokevirtual 95, 3) := by decide +kernel
theorem dWE_untrain_33 : decode prog_1_method_7_code 33 = .ok (.ifCond .ne 6, 3) := by decide +kernel
theorem dWE_untrain_36 : decode prog_1_method_7_code 36 = .ok (.bipush (-5), 2) := by decide +kernel
theorem dWE_untrain_38 : decode prog_1_method_7_code 38 = .ok (.ireturn, 1) := by decide +kernel
theorem dWE_untrain_39 : decode prog_1_method_7_code 39 = .ok (.aload_n 0, 1) := by decide +kernel
theorem dWE_untrain_40 : decode prog_1_method_7_code 40 = .ok (.iload_n 1, 1) := by decide +kernel
theorem dWE_untrain_41 : decode prog_1_method_7_code 41 = .ok (.aconst_null, 1) := by decide +kernel
theorem dWE_untrain_42 : decode prog_1_method_7_code 42 = .ok (.iconst 1, 1) := by decide +kernel
theorem dWE_untrain_43 : decode prog_1_method_7_code 43 = .ok (.invokevirtual 107, 3) := by decide +kernel
theorem dWE_untrain_46 : decode prog_1_method_7_code 46 = .ok (.aload_n 2, 1) := by decide +kernel
theorem dWE_untrain_47 : decode prog_1_method_7_code 47 = .ok (.getfield 111, 3) := by decide +kernel
theorem dWE_untrain_50 : decode prog_1_method_7_code 50 = .ok (.ireturn, 1) := by decide +kernel
theorem dWE_sync_0 : decode prog_1_method_8_code 0 = .ok (.aload_n 0, 1) := by decide +kernel
theorem dWE_sync_1 : decode prog_1_method_8_code 1 = .ok (.getfield 23, 3) := by decide +kernel
theorem dWE_sync_4 : decode prog_1_method_8_code 4 = .ok (.aload_n 0, 1) := by decide +kernel
theorem dWE_sync_5 : decode prog_1_method_8_code 5 = .ok (.getfield 19, 3) := by decide +kernel
theorem dWE_sync_8 : decode prog_1_method_8_code 8 = .ok (.invokevirtual 114, 3) := by decide +kernel
theorem dWE_sync_11 : decode prog_1_method_8_code 11 = .ok (.aload_n 0, 1) := by decide +kernel
theorem dWE_sync_12 : decode prog_1_method_8_code 12 = .ok (.getfield 29, 3) := by decide +kernel
theorem dWE_sync_15 : decode prog_1_method_8_code 15 = .ok (.invokevirtual 118, 3) := by decide +kernel
theorem dWE_sync_18 : decode prog_1_method_8_code 18 = .ok (.ireturn, 1) := by decide +kernel
theorem dShelf_copyFrom_0 : decode prog_7_method_4_code 0 = .ok (.iconst 0, 1) := by decide +kernel
theorem dShelf_copyFrom_1 : decode prog_7_method_4_code 1 = .ok (.istore_n 2, 1) := by decide +kernel
theorem dShelf_copyFrom_2 : decode prog_7_method_4_code 2 = .ok (.iload_n 2, 1) := by decide +kernel
theorem dShelf_copyFrom_3 : decode prog_7_method_4_code 3 = .ok (.bipush 32, 2) := by decide +kernel
theorem dShelf_copyFrom_5 : decode prog_7_method_4_code 5 = .ok (.if_icmp .ge 21, 3) := by decide +kernel
theorem dShelf_copyFrom_8 : decode prog_7_method_4_code 8 = .ok (.aload_n 0, 1) := by decide +kernel
theorem dShelf_copyFrom_9 : decode prog_7_method_4_code 9 = .ok (.getfield 11, 3) := by decide +kernel
theorem dShelf_copyFrom_12 : decode prog_7_method_4_code 12 = .ok (.iload_n 2, 1) := by decide +kernel
theorem dShelf_copyFrom_13 : decode prog_7_method_4_code 13 = .ok (.aload_n 1, 1) := by decide +kernel
theorem dShelf_copyFrom_14 : decode prog_7_method_4_code 14 = .ok (.getfield 11, 3) := by decide +kernel
theorem dShelf_copyFrom_17 : decode prog_7_method_4_code 17 = .ok (.iload_n 2, 1) := by decide +kernel
theorem dShelf_copyFrom_18 : decode prog_7_method_4_code 18 = .ok (.aaload, 1) := by decide +kernel
end
section
theorem dShelf_copyFrom_19 : decode prog_7_method_4_code 19 = .ok (.aastore, 1) := by decide +kernel
theorem dShelf_copyFrom_20 : decode prog_7_method_4_code 20 = .ok (.iinc 2 1, 3) := by decide +kernel
theorem dShelf_copyFrom_23 : decode prog_7_method_4_code 23 = .ok (.goto (-21), 3) := by decide +kernel
theorem dShelf_copyFrom_26 : decode prog_7_method_4_code 26 = .ok (.return_, 1) := by decide +kernel
theorem dLog_empty_0 : decode prog_5_method_5_code 0 = .ok (.aload_n 0, 1) := by decide +kernel
theorem dLog_empty_1 : decode prog_5_method_5_code 1 = .ok (.getfield 28, 3) := by decide +kernel
theorem dLog_empty_4 : decode prog_5_method_5_code 4 = .ok (.istore_n 1, 1) := by decide +kernel
theorem dLog_empty_5 : decode prog_5_method_5_code 5 = .ok (.aload_n 0, 1) := by decide +kernel
theorem dLog_empty_6 : decode prog_5_method_5_code 6 = .ok (.iconst 0, 1) := by decide +kernel
theorem dLog_empty_7 : decode prog_5_method_5_code 7 = .ok (.putfield 24, 3) := by decide +kernel
theorem dLog_empty_10 : decode prog_5_method_5_code 10 = .ok (.aload_n 0, 1) := by decide +kernel
theorem dLog_empty_11 : decode prog_5_method_5_code 11 = .ok (.iconst 0, 1) := by decide +kernel
theorem dLog_empty_12 : decode prog_5_method_5_code 12 = .ok (.putfield 28, 3) := by decide +kernel
theorem dLog_empty_15 : decode prog_5_method_5_code 15 = .ok (.iload_n 1, 1) := by decide +kernel
theorem dLog_empty_16 : decode prog_5_method_5_code 16 = .ok (.ireturn, 1) := by decide +kernel
theorem dWE_fail_0 : decode prog_1_method_9_code 0 = .ok (.aload_n 0, 1) := by decide +kernel
theorem dWE_fail_1 : decode prog_1_method_9_code 1 = .ok (.getfield 29, 3) := by decide +kernel
theorem dWE_fail_4 : decode prog_1_method_9_code 4 = .ok (.aload_n 0, 1) := by decide +kernel
theorem dWE_fail_5 : decode prog_1_method_9_code 5 = .ok (.getfield 23, 3) := by decide +kernel
theorem dWE_fail_8 : decode prog_1_method_9_code 8 = .ok (.iload_n 1, 1) := by decide +kernel
theorem dWE_fail_9 : decode prog_1_method_9_code 9 = .ok (.invokevirtual 119, 3) := by decide +kernel
theorem dWE_fail_12 : decode prog_1_method_9_code 12 = .ok (.istore_n 2, 1) := by decide +kernel
theorem dWE_fail_13 : decode prog_1_method_9_code 13 = .ok (.aload_n 0, 1) := by decide +kernel
theorem dWE_fail_14 : decode prog_1_method_9_code 14 = .ok (.getfield 19, 3) := by decide +kernel
theorem dWE_fail_17 : decode prog_1_method_9_code 17 = .ok (.aload_n 0, 1) := by decide +kernel
theorem dWE_fail_18 : decode prog_1_method_9_code 18 = .ok (.getfield 23, 3) := by decide +kernel
theorem dWE_fail_21 : decode prog_1_method_9_code 21 = .ok (.invokevirtual 114, 3) := by decide +kernel
theorem dWE_fail_24 : decode prog_1_method_9_code 24 = .ok (.aload_n 0, 1) := by decide +kernel
theorem dWE_fail_25 : decode prog_1_method_9_code 25 = .ok (.getfield 29, 3) := by decide +kernel
theorem dWE_fail_28 : decode prog_1_method_9_code 28 = .ok (.invokevirtual 118, 3) := by decide +kernel
theorem dWE_fail_31 : decode prog_1_method_9_code 31 = .ok (.pop, 1) := by decide +kernel
theorem dWE_fail_32 : decode prog_1_method_9_code 32 = .ok (.iload_n 2, 1) := by decide +kernel
theorem dWE_fail_33 : decode prog_1_method_9_code 33 = .ok (.ireturn, 1) := by decide +kernel
theorem dLog_replayOn_0 : decode prog_5_method_4_code 0 = .ok (.iload_n 2, 1) := by decide +kernel
theorem dLog_replayOn_1 : decode prog_5_method_4_code 1 = .ok (.istore_n 3, 1) := by decide +kernel
theorem dLog_replayOn_2 : decode prog_5_method_4_code 2 = .ok (.iconst 0, 1) := by decide +kernel
theorem dLog_replayOn_3 : decode prog_5_method_4_code 3 = .ok (.istore 4, 2) := by decide +kernel
theorem dLog_replayOn_5 : decode prog_5_method_4_code 5 = .ok (.iload 4, 2) := by decide +kernel
theorem dLog_replayOn_7 : decode prog_5_method_4_code 7 = .ok (.aload_n 0, 1) := by decide +kernel
theorem dLog_replayOn_8 : decode prog_5_method_4_code 8 = .ok (.getfield 24, 3) := by decide +kernel
theorem dLog_replayOn_11 : decode prog_5_method_4_code 11 = .ok (.if_icmp .ge 48, 3) := by decide +kernel
theorem dLog_replayOn_14 : decode prog_5_method_4_code 14 = .ok (.aload_n 0, 1) := by decide +kernel
theorem dLog_replayOn_15 : decode prog_5_method_4_code 15 = .ok (.getfield 15, 3) := by decide +kernel
theorem dLog_replayOn_18 : decode prog_5_method_4_code 18 = .ok (.iload 4, 2) := by decide +kernel
theorem dLog_replayOn_20 : decode prog_5_method_4_code 20 = .ok (.iaload, 1) := by decide +kernel
theorem dLog_replayOn_21 : decode prog_5_method_4_code 21 = .ok (.iload_n 3, 1) := by decide +kernel
theorem dLog_replayOn_22 : decode prog_5_method_4_code 22 = .ok (.if_icmp .gt 37, 3) := by decide +kernel
theorem dLog_replayOn_25 : decode prog_5_method_4_code 25 = .ok (.aload_n 1, 1) := by decide +kernel
theorem dLog_replayOn_26 : decode prog_5_method_4_code 26 = .ok (.aload_n 0, 1) := by decide +kernel
theorem dLog_replayOn_27 : decode prog_5_method_4_code 27 = .ok (.getfield 9, 3) := by decide +kernel
theorem dLog_replayOn_30 : decode prog_5_method_4_code 30 = .ok (.iload 4, 2) := by decide +kernel
theorem dLog_replayOn_32 : decode prog_5_method_4_code 32 = .ok (.iaload, 1) := by decide +kernel
theorem dLog_replayOn_33 : decode prog_5_method_4_code 33 = .ok (.aload_n 0, 1) := by decide +kernel
theorem dLog_replayOn_34 : decode prog_5_method_4_code 34 = .ok (.getfield 20, 3) := by decide +kernel
theorem dLog_replayOn_37 : decode prog_5_method_4_code 37 = .ok (.iload 4, 2) := by decide +kernel
theorem dLog_replayOn_39 : decode prog_5_method_4_code 39 = .ok (.aaload, 1) := by decide +kernel
theorem dLog_replayOn_40 : decode prog_5_method_4_code 40 = .ok (.invokevirtual 31, 3) := by decide +kernel
theorem dLog_replayOn_43 : decode prog_5_method_4_code 43 = .ok (.iload_n 3, 1) := by decide +kernel
theorem dLog_replayOn_44 : decode prog_5_method_4_code 44 = .ok (.aload_n 0, 1) := by decide +kernel
theorem dLog_replayOn_45 : decode prog_5_method_4_code 45 = .ok (.getfield 15, 3) := by decide +kernel
theorem dLog_replayOn_48 : decode prog_5_method_4_code 48 = .ok (.iload 4, 2) := by decide +kernel
theorem dLog_replayOn_50 : decode prog_5_method_4_code 50 = .ok (.iaload, 1) := by decide +kernel
theorem dLog_replayOn_51 : decode prog_5_method_4_code 51 = .ok (.isub, 1) := by decide +kernel
theorem dLog_replayOn_52 : decode prog_5_method_4_code 52 = .ok (.istore_n 3, 1) := by decide +kernel
theorem dLog_replayOn_53 : decode prog_5_method_4_code 53 = .ok (.iinc 4 1, 3) := by decide +kernel
theorem dLog_replayOn_56 : decode prog_5_method_4_code 56 = .ok (.goto (-51), 3) := by decide +kernel
theorem dLog_replayOn_59 : decode prog_5_method_4_code 59 = .ok (.aload_n 0, 1) := by decide +kernel
theorem dLog_replayOn_60 : decode prog_5_method_4_code 60 = .ok (.getfield 24, 3) := by decide +kernel
theorem dLog_replayOn_63 : decode prog_5_method_4_code 63 = .ok (.iload 4, 2) := by decide +kernel
theorem dLog_replayOn_65 : decode prog_5_method_4_code 65 = .ok (.isub, 1) := by decide +kernel
theorem dLog_replayOn_66 : decode prog_5_method_4_code 66 = .ok (.ireturn, 1) := by decide +kernel
theorem dWE_pending_0 : decode prog_1_method_10_code 0 = .ok (.aload_n 0, 1) := by decide +kernel
theorem dWE_pending_1 : decode prog_1_method_10_code 1 = .ok (.getfield 29, 3) := by decide +kernel
theorem dWE_pending_4 : decode prog_1_method_10_code 4 = .ok (.getfield 123, 3) := by decide +kernel
theorem dWE_pending_7 : decode prog_1_method_10_code 7 = .ok (.ireturn, 1) := by decide +kernel
theorem dWE_documents_0 : decode prog_1_method_11_code 0 = .ok (.iload_n 1, 1) := by decide +kernel
theorem dWE_documents_1 : decode prog_1_method_11_code 1 = .ok (.iconst (-1), 1) := by decide +kernel
theorem dWE_documents_2 : decode prog_1_method_11_code 2 = .ok (.if_icmp .ne 11, 3) := by decide +kernel
theorem dWE_documents_5 : decode prog_1_method_11_code 5 = .ok (.aload_n 0, 1) := by decide +kernel
theorem dWE_documents_6 : decode prog_1_method_11_code 6 = .ok (.getfield 19, 3) := by decide +kernel
theorem dWE_documents_9 : decode prog_1_method_11_code 9 = .ok (.invokevirtual 88, 3) := by decide +kernel
theorem dWE_documents_12 : decode prog_1_method_11_code 12 = .ok (.ireturn, 1) := by decide +kernel
theorem dWE_documents_13 : decode prog_1_method_11_code 13 = .ok (.aload_n 0, 1) := by decide +kernel
theorem dWE_documents_14 : decode prog_1_method_11_code 14 = .ok (.iload_n 1, 1) := by decide +kernel
theorem dWE_documents_15 : decode prog_1_method_11_code 15 = .ok (.invokevirtual 81, 3) := by decide +kernel
theorem dWE_documents_18 : decode prog_1_method_11_code 18 = .ok (.ifCond .eq 14, 3) := by decide +kernel
theorem dWE_documents_21 : decode prog_1_method_11_code 21 = .ok (.aload_n 0, 1) := by decide +kernel
theorem dWE_documents_22 : decode prog_1_method_11_code 22 = .ok (.getfield 19, 3) := by decide +kernel
theorem dWE_documents_25 : decode prog_1_method_11_code 25 = .ok (.iload_n 1, 1) := by decide +kernel
theorem dWE_documents_26 : decode prog_1_method_11_code 26 = .ok (.invokevirtual 126, 3) := by decide +kernel
theorem dWE_documents_29 : decode prog_1_method_11_code 29 = .ok (.goto 4, 3) := by decide +kernel
theorem dWE_documents_32 : decode prog_1_method_11_code 32 = .ok (.iconst (-1), 1) := by decide +kernel
theorem dWE_documents_33 : decode prog_1_method_11_code 33 = .ok (.ireturn, 1) := by decide +kernel
theorem dShelf_documentsOf_0 : decode prog_7_method_6_code 0 = .ok (.iconst 0, 1) := by decide +kernel
theorem dShelf_documentsOf_1 : decode prog_7_method_6_code 1 = .ok (.istore_n 2, 1) := by decide +kernel
theorem dShelf_documentsOf_2 : decode prog_7_method_6_code 2 = .ok (.aload_n 0, 1) := by decide +kernel
theorem dShelf_documentsOf_3 : decode prog_7_method_6_code 3 = .ok (.getfield 11, 3) := by decide +kernel
theorem dShelf_documentsOf_6 : decode prog_7_method_6_code 6 = .ok (.astore_n 3, 1) := by decide +kernel
theorem dShelf_documentsOf_7 : decode prog_7_method_6_code 7 = .ok (.aload_n 3, 1) := by decide +kernel
theorem dShelf_documentsOf_8 : decode prog_7_method_6_code 8 = .ok (.arraylength, 1) := by decide +kernel
theorem dShelf_documentsOf_9 : decode prog_7_method_6_code 9 = .ok (.istore 4, 2) := by decide +kernel
theorem dShelf_documentsOf_11 : decode prog_7_method_6_code 11 = .ok (.iconst 0, 1) := by decide +kernel
theorem dShelf_documentsOf_12 : decode prog_7_method_6_code 12 = .ok (.istore 5, 2) := by decide +kernel
theorem dShelf_documentsOf_14 : decode prog_7_method_6_code 14 = .ok (.iload 5, 2) := by decide +kernel
theorem dShelf_documentsOf_16 : decode prog_7_method_6_code 16 = .ok (.iload 4, 2) := by decide +kernel
theorem dShelf_documentsOf_18 : decode prog_7_method_6_code 18 = .ok (.if_icmp .ge 32, 3) := by decide +kernel
theorem dShelf_documentsOf_21 : decode prog_7_method_6_code 21 = .ok (.aload_n 3, 1) := by decide +kernel
theorem dShelf_documentsOf_22 : decode prog_7_method_6_code 22 = .ok (.iload 5, 2) := by decide +kernel
theorem dShelf_documentsOf_24 : decode prog_7_method_6_code 24 = .ok (.aaload, 1) := by decide +kernel
theorem dShelf_documentsOf_25 : decode prog_7_method_6_code 25 = .ok (.astore 6, 2) := by decide +kernel
theorem dShelf_documentsOf_27 : decode prog_7_method_6_code 27 = .ok (.aload 6, 2) := by decide +kernel
theorem dShelf_documentsOf_29 : decode prog_7_method_6_code 29 = .ok (.ifnull 15, 3) := by decide +kernel
theorem dShelf_documentsOf_32 : decode prog_7_method_6_code 32 = .ok (.aload 6, 2) := by decide +kernel
theorem dShelf_documentsOf_34 : decode prog_7_method_6_code 34 = .ok (.getfield 25, 3) := by decide +kernel
theorem dShelf_documentsOf_37 : decode prog_7_method_6_code 37 = .ok (.iload_n 1, 1) := by decide +kernel
theorem dShelf_documentsOf_38 : decode prog_7_method_6_code 38 = .ok (.if_icmp .ne 6, 3) := by decide +kernel
theorem dShelf_documentsOf_41 : decode prog_7_method_6_code 41 = .ok (.iinc 2 1, 3) := by decide +kernel
theorem dShelf_documentsOf_44 : decode prog_7_method_6_code 44 = .ok (.iinc 5 1, 3) := by decide +kernel
theorem dShelf_documentsOf_47 : decode prog_7_method_6_code 47 = .ok (.goto (-33), 3) := by decide +kernel
theorem dShelf_documentsOf_50 : decode prog_7_method_6_code 50 = .ok (.iload_n 2, 1) := by decide +kernel
theorem dShelf_documentsOf_51 : decode prog_7_method_6_code 51 = .ok (.ireturn, 1) := by decide +kernel
theorem dWE_total_0 : decode prog_1_method_12_code 0 = .ok (.aload_n 0, 1) := by decide +kernel
theorem dWE_total_1 : decode prog_1_method_12_code 1 = .ok (.iload_n 1, 1) := by decide +kernel
theorem dWE_total_2 : decode prog_1_method_12_code 2 = .ok (.invokevirtual 81, 3) := by decide +kernel
theorem dWE_total_5 : decode prog_1_method_12_code 5 = .ok (.ifCond .eq 14, 3) := by decide +kernel
theorem dWE_total_8 : decode prog_1_method_12_code 8 = .ok (.aload_n 0, 1) := by decide +kernel
theorem dWE_total_9 : decode prog_1_method_12_code 9 = .ok (.getfield 19, 3) := by decide +kernel
theorem dWE_total_12 : decode prog_1_method_12_code 12 = .ok (.iload_n 1, 1) := by decide +kernel
theorem dWE_total_13 : decode prog_1_method_12_code 13 = .ok (.invokevirtual 129, 3) := by decide +kernel
theorem dWE_total_16 : decode prog_1_method_12_code 16 = .ok (.goto 4, 3) := by decide +kernel
theorem dWE_total_19 : decode prog_1_method_12_code 19 = .ok (.iconst (-1), 1) := by decide +kernel
theorem dWE_total_20 : decode prog_1_method_12_code 20 = .ok (.ireturn, 1) := by decide +kernel
theorem dShelf_wordsOf_0 : decode prog_7_method_7_code 0 = .ok (.iconst 0, 1) := by decide +kernel
theorem dShelf_wordsOf_1 : decode prog_7_method_7_code 1 = .ok (.istore_n 2, 1) := by decide +kernel
theorem dShelf_wordsOf_2 : decode prog_7_method_7_code 2 = .ok (.aload_n 0, 1) := by decide +kernel
theorem dShelf_wordsOf_3 : decode prog_7_method_7_code 3 = .ok (.getfield 11, 3) := by decide +kernel
theorem dShelf_wordsOf_6 : decode prog_7_method_7_code 6 = .ok (.astore_n 3, 1) := by decide +kernel
theorem dShelf_wordsOf_7 : decode prog_7_method_7_code 7 = .ok (.aload_n 3, 1) := by decide +kernel
theorem dShelf_wordsOf_8 : decode prog_7_method_7_code 8 = .ok (.arraylength, 1) := by decide +kernel
theorem dShelf_wordsOf_9 : decode prog_7_method_7_code 9 = .ok (.istore 4, 2) := by decide +kernel
theorem dShelf_wordsOf_11 : decode prog_7_method_7_code 11 = .ok (.iconst 0, 1) := by decide +kernel
theorem dShelf_wordsOf_12 : decode prog_7_method_7_code 12 = .ok (.istore 5, 2) := by decide +kernel
theorem dShelf_wordsOf_14 : decode prog_7_method_7_code 14 = .ok (.iload 5, 2) := by decide +kernel
theorem dShelf_wordsOf_16 : decode prog_7_method_7_code 16 = .ok (.iload 4, 2) := by decide +kernel
theorem dShelf_wordsOf_18 : decode prog_7_method_7_code 18 = .ok (.if_icmp .ge 38, 3) := by decide +kernel
theorem dShelf_wordsOf_21 : decode prog_7_method_7_code 21 = .ok (.aload_n 3, 1) := by decide +kernel
theorem dShelf_wordsOf_22 : decode prog_7_method_7_code 22 = .ok (.iload 5, 2) := by decide +kernel
theorem dShelf_wordsOf_24 : decode prog_7_method_7_code 24 = .ok (.aaload, 1) := by decide +kernel
theorem dShelf_wordsOf_25 : decode prog_7_method_7_code 25 = .ok (.astore 6, 2) := by decide +kernel
theorem dShelf_wordsOf_27 : decode prog_7_method_7_code 27 = .ok (.aload 6, 2) := by decide +kernel
theorem dShelf_wordsOf_29 : decode prog_7_method_7_code 29 = .ok (.ifnull 21, 3) := by decide +kernel
theorem dShelf_wordsOf_32 : decode prog_7_method_7_code 32 = .ok (.aload 6, 2) := by decide +kernel
theorem dShelf_wordsOf_34 : decode prog_7_method_7_code 34 = .ok (.getfield 25, 3) := by decide +kernel
theorem dShelf_wordsOf_37 : decode prog_7_method_7_code 37 = .ok (.iload_n 1, 1) := by decide +kernel
theorem dShelf_wordsOf_38 : decode prog_7_method_7_code 38 = .ok (.if_icmp .ne 12, 3) := by decide +kernel
theorem dShelf_wordsOf_41 : decode prog_7_method_7_code 41 = .ok (.iload_n 2, 1) := by decide +kernel
theorem dShelf_wordsOf_42 : decode prog_7_method_7_code 42 = .ok (.aload 6, 2) := by decide +kernel
theorem dShelf_wordsOf_44 : decode prog_7_method_7_code 44 = .ok (.getfield 29, 3) := by decide +kernel
theorem dShelf_wordsOf_47 : decode prog_7_method_7_code 47 = .ok (.arraylength, 1) := by decide +kernel
theorem dShelf_wordsOf_48 : decode prog_7_method_7_code 48 = .ok (.iadd, 1) := by decide +kernel
theorem dShelf_wordsOf_49 : decode prog_7_method_7_code 49 = .ok (.istore_n 2, 1) := by decide +kernel
theorem dShelf_wordsOf_50 : decode prog_7_method_7_code 50 = .ok (.iinc 5 1, 3) := by decide +kernel
theorem dShelf_wordsOf_53 : decode prog_7_method_7_code 53 = .ok (.goto (-39), 3) := by decide +kernel
theorem dShelf_wordsOf_56 : decode prog_7_method_7_code 56 = .ok (.iload_n 2, 1) := by decide +kernel
theorem dShelf_wordsOf_57 : decode prog_7_method_7_code 57 = .ok (.ireturn, 1) := by decide +kernel
theorem dWE_count_0 : decode prog_1_method_13_code 0 = .ok (.aload_n 0, 1) := by decide +kernel
theorem dWE_count_1 : decode prog_1_method_13_code 1 = .ok (.iload_n 1, 1) := by decide +kernel
theorem dWE_count_2 : decode prog_1_method_13_code 2 = .ok (.invokevirtual 81, 3) := by decide +kernel
theorem dWE_count_5 : decode prog_1_method_13_code 5 = .ok (.ifCond .eq 14, 3) := by decide +kernel
theorem dWE_count_8 : decode prog_1_method_13_code 8 = .ok (.aload_n 0, 1) := by decide +kernel
theorem dWE_count_9 : decode prog_1_method_13_code 9 = .ok (.getfield 10, 3) := by decide +kernel
theorem dWE_count_12 : decode prog_1_method_13_code 12 = .ok (.iload_n 2, 1) := by decide +kernel
theorem dWE_count_13 : decode prog_1_method_13_code 13 = .ok (.invokevirtual 64, 3) := by decide +kernel
theorem dWE_count_16 : decode prog_1_method_13_code 16 = .ok (.ifCond .ne 5, 3) := by decide +kernel
theorem dWE_count_19 : decode prog_1_method_13_code 19 = .ok (.iconst (-1), 1) := by decide +kernel
theorem dWE_count_20 : decode prog_1_method_13_code 20 = .ok (.ireturn, 1) := by decide +kernel
theorem dWE_count_21 : decode prog_1_method_13_code 21 = .ok (.aload_n 0, 1) := by decide +kernel
theorem dWE_count_22 : decode prog_1_method_13_code 22 = .ok (.getfield 19, 3) := by decide +kernel
theorem dWE_count_25 : decode prog_1_method_13_code 25 = .ok (.iload_n 1, 1) := by decide +kernel
theorem dWE_count_26 : decode prog_1_method_13_code 26 = .ok (.aload_n 0, 1) := by decide +kernel
theorem dWE_count_27 : decode prog_1_method_13_code 27 = .ok (.getfield 10, 3) := by decide +kernel
theorem dWE_count_30 : decode prog_1_method_13_code 30 = .ok (.getfield 68, 3) := by decide +kernel
theorem dWE_count_33 : decode prog_1_method_13_code 33 = .ok (.iload_n 2, 1) := by decide +kernel
theorem dWE_count_34 : decode prog_1_method_13_code 34 = .ok (.laload, 1) := by decide +kernel
theorem dWE_count_35 : decode prog_1_method_13_code 35 = .ok (.invokevirtual 132, 3) := by decide +kernel
theorem dWE_count_38 : decode prog_1_method_13_code 38 = .ok (.ireturn, 1) := by decide +kernel
theorem dShelf_timesOf_0 : decode prog_7_method_8_code 0 = .ok (.iconst 0, 1) := by decide +kernel
theorem dShelf_timesOf_1 : decode prog_7_method_8_code 1 = .ok (.istore 4, 2) := by decide +kernel
theorem dShelf_timesOf_3 : decode prog_7_method_8_code 3 = .ok (.aload_n 0, 1) := by decide +kernel
theorem dShelf_timesOf_4 : decode prog_7_method_8_code 4 = .ok (.getfield 11, 3) := by decide +kernel
theorem dShelf_timesOf_7 : decode prog_7_method_8_code 7 = .ok (.astore 5, 2) := by decide +kernel
theorem dShelf_timesOf_9 : decode prog_7_method_8_code 9 = .ok (.aload 5, 2) := by decide +kernel
theorem dShelf_timesOf_11 : decode prog_7_method_8_code 11 = .ok (.arraylength, 1) := by decide +kernel
theorem dShelf_timesOf_12 : decode prog_7_method_8_code 12 = .ok (.istore 6, 2) := by decide +kernel
theorem dShelf_timesOf_14 : decode prog_7_method_8_code 14 = .ok (.iconst 0, 1) := by decide +kernel
theorem dShelf_timesOf_15 : decode prog_7_method_8_code 15 = .ok (.istore 7, 2) := by decide +kernel
theorem dShelf_timesOf_17 : decode prog_7_method_8_code 17 = .ok (.iload 7, 2) := by decide +kernel
theorem dShelf_timesOf_19 : decode prog_7_method_8_code 19 = .ok (.iload 6, 2) := by decide +kernel
theorem dShelf_timesOf_21 : decode prog_7_method_8_code 21 = .ok (.if_icmp .ge 41, 3) := by decide +kernel
theorem dShelf_timesOf_24 : decode prog_7_method_8_code 24 = .ok (.aload 5, 2) := by decide +kernel
theorem dShelf_timesOf_26 : decode prog_7_method_8_code 26 = .ok (.iload 7, 2) := by decide +kernel
theorem dShelf_timesOf_28 : decode prog_7_method_8_code 28 = .ok (.aaload, 1) := by decide +kernel
theorem dShelf_timesOf_29 : decode prog_7_method_8_code 29 = .ok (.astore 8, 2) := by decide +kernel
theorem dShelf_timesOf_31 : decode prog_7_method_8_code 31 = .ok (.aload 8, 2) := by decide +kernel
theorem dShelf_timesOf_33 : decode prog_7_method_8_code 33 = .ok (.ifnull 23, 3) := by decide +kernel
theorem dShelf_timesOf_36 : decode prog_7_method_8_code 36 = .ok (.aload 8, 2) := by decide +kernel
theorem dShelf_timesOf_38 : decode prog_7_method_8_code 38 = .ok (.getfield 25, 3) := by decide +kernel
theorem dShelf_timesOf_41 : decode prog_7_method_8_code 41 = .ok (.iload_n 1, 1) := by decide +kernel
theorem dShelf_timesOf_42 : decode prog_7_method_8_code 42 = .ok (.if_icmp .ne 14, 3) := by decide +kernel
theorem dShelf_timesOf_45 : decode prog_7_method_8_code 45 = .ok (.iload 4, 2) := by decide +kernel
theorem dShelf_timesOf_47 : decode prog_7_method_8_code 47 = .ok (.aload 8, 2) := by decide +kernel
theorem dShelf_timesOf_49 : decode prog_7_method_8_code 49 = .ok (.lload_n 2, 1) := by decide +kernel
theorem dShelf_timesOf_50 : decode prog_7_method_8_code 50 = .ok (.invokevirtual 32, 3) := by decide +kernel
theorem dShelf_timesOf_53 : decode prog_7_method_8_code 53 = .ok (.iadd, 1) := by decide +kernel
theorem dShelf_timesOf_54 : decode prog_7_method_8_code 54 = .ok (.istore 4, 2) := by decide +kernel
theorem dShelf_timesOf_56 : decode prog_7_method_8_code 56 = .ok (.iinc 7 1, 3) := by decide +kernel
theorem dShelf_timesOf_59 : decode prog_7_method_8_code 59 = .ok (.goto (-42), 3) := by decide +kernel
theorem dShelf_timesOf_62 : decode prog_7_method_8_code 62 = .ok (.iload 4, 2) := by decide +kernel
theorem dShelf_timesOf_64 : decode prog_7_method_8_code 64 = .ok (.ireturn, 1) := by decide +kernel
theorem dDocument_timesOf_0 : decode prog_3_method_2_code 0 = .ok (.iconst 0, 1) := by decide +kernel
theorem dDocument_timesOf_1 : decode prog_3_method_2_code 1 = .ok (.istore_n 3, 1) := by decide +kernel
theorem dDocument_timesOf_2 : decode prog_3_method_2_code 2 = .ok (.aload_n 0, 1) := by decide +kernel
theorem dDocument_timesOf_3 : decode prog_3_method_2_code 3 = .ok (.getfield 13, 3) := by decide +kernel
theorem dDocument_timesOf_6 : decode prog_3_method_2_code 6 = .ok (.astore 4, 2) := by decide +kernel
theorem dDocument_timesOf_8 : decode prog_3_method_2_code 8 = .ok (.aload 4, 2) := by decide +kernel
theorem dDocument_timesOf_10 : decode prog_3_method_2_code 10 = .ok (.arraylength, 1) := by decide +kernel
theorem dDocument_timesOf_11 : decode prog_3_method_2_code 11 = .ok (.istore 5, 2) := by decide +kernel
theorem dDocument_timesOf_13 : decode prog_3_method_2_code 13 = .ok (.iconst 0, 1) := by decide +kernel
theorem dDocument_timesOf_14 : decode prog_3_method_2_code 14 = .ok (.istore 6, 2) := by decide +kernel
theorem dDocument_timesOf_16 : decode prog_3_method_2_code 16 = .ok (.iload 6, 2) := by decide +kernel
theorem dDocument_timesOf_18 : decode prog_3_method_2_code 18 = .ok (.iload 5, 2) := by decide +kernel
theorem dDocument_timesOf_20 : decode prog_3_method_2_code 20 = .ok (.if_icmp .ge 26, 3) := by decide +kernel
theorem dDocument_timesOf_23 : decode prog_3_method_2_code 23 = .ok (.aload 4, 2) := by decide +kernel
theorem dDocument_timesOf_25 : decode prog_3_method_2_code 25 = .ok (.iload 6, 2) := by decide +kernel
theorem dDocument_timesOf_27 : decode prog_3_method_2_code 27 = .ok (.laload, 1) := by decide +kernel
theorem dDocument_timesOf_28 : decode prog_3_method_2_code 28 = .ok (.lstore 7, 2) := by decide +kernel
theorem dDocument_timesOf_30 : decode prog_3_method_2_code 30 = .ok (.lload 7, 2) := by decide +kernel
theorem dDocument_timesOf_32 : decode prog_3_method_2_code 32 = .ok (.lload_n 1, 1) := by decide +kernel
theorem dDocument_timesOf_33 : decode prog_3_method_2_code 33 = .ok (.lcmp, 1) := by decide +kernel
theorem dDocument_timesOf_34 : decode prog_3_method_2_code 34 = .ok (.ifCond .ne 6, 3) := by decide +kernel
theorem dDocument_timesOf_37 : decode prog_3_method_2_code 37 = .ok (.iinc 3 1, 3) := by decide +kernel
theorem dDocument_timesOf_40 : decode prog_3_method_2_code 40 = .ok (.iinc 6 1, 3) := by decide +kernel
theorem dDocument_timesOf_43 : decode prog_3_method_2_code 43 = .ok (.goto (-27), 3) := by decide +kernel
theorem dDocument_timesOf_46 : decode prog_3_method_2_code 46 = .ok (.iload_n 3, 1) := by decide +kernel
theorem dDocument_timesOf_47 : decode prog_3_method_2_code 47 = .ok (.ireturn, 1) := by decide +kernel
theorem dWE_vocabulary_0 : decode prog_1_method_14_code 0 = .ok (.aload_n 0, 1) := by decide +kernel
theorem dWE_vocabulary_1 : decode prog_1_method_14_code 1 = .ok (.getfield 19, 3) := by decide +kernel
theorem dWE_vocabulary_4 : decode prog_1_method_14_code 4 = .ok (.invokevirtual 136, 3) := by decide +kernel
theorem dWE_vocabulary_7 : decode prog_1_method_14_code 7 = .ok (.ireturn, 1) := by decide +kernel
theorem dShelf_differentWords_0 : decode prog_7_method_9_code 0 = .ok (.iconst 0, 1) := by decide +kernel
theorem dShelf_differentWords_1 : decode prog_7_method_9_code 1 = .ok (.istore_n 1, 1) := by decide +kernel
theorem dShelf_differentWords_2 : decode prog_7_method_9_code 2 = .ok (.aload_n 0, 1) := by decide +kernel
theorem dShelf_differentWords_3 : decode prog_7_method_9_code 3 = .ok (.getfield 11, 3) := by decide +kernel
theorem dShelf_differentWords_6 : decode prog_7_method_9_code 6 = .ok (.astore_n 2, 1) := by decide +kernel
theorem dShelf_differentWords_7 : decode prog_7_method_9_code 7 = .ok (.aload_n 2, 1) := by decide +kernel
theorem dShelf_differentWords_8 : decode prog_7_method_9_code 8 = .ok (.arraylength, 1) := by decide +kernel
theorem dShelf_differentWords_9 : decode prog_7_method_9_code 9 = .ok (.istore_n 3, 1) := by decide +kernel
theorem dShelf_differentWords_10 : decode prog_7_method_9_code 10 = .ok (.iconst 0, 1) := by decide +kernel
theorem dShelf_differentWords_11 : decode prog_7_method_9_code 11 = .ok (.istore 4, 2) := by decide +kernel
theorem dShelf_differentWords_13 : decode prog_7_method_9_code 13 = .ok (.iload 4, 2) := by decide +kernel
theorem dShelf_differentWords_15 : decode prog_7_method_9_code 15 = .ok (.iload_n 3, 1) := by decide +kernel
theorem dShelf_differentWords_16 : decode prog_7_method_9_code 16 = .ok (.if_icmp .ge 28, 3) := by decide +kernel
theorem dShelf_differentWords_19 : decode prog_7_method_9_code 19 = .ok (.aload_n 2, 1) := by decide +kernel
theorem dShelf_differentWords_20 : decode prog_7_method_9_code 20 = .ok (.iload 4, 2) := by decide +kernel
theorem dShelf_differentWords_22 : decode prog_7_method_9_code 22 = .ok (.aaload, 1) := by decide +kernel
theorem dShelf_differentWords_23 : decode prog_7_method_9_code 23 = .ok (.astore 5, 2) := by decide +kernel
theorem dShelf_differentWords_25 : decode prog_7_method_9_code 25 = .ok (.aload 5, 2) := by decide +kernel
theorem dShelf_differentWords_27 : decode prog_7_method_9_code 27 = .ok (.ifnull 11, 3) := by decide +kernel
theorem dShelf_differentWords_30 : decode prog_7_method_9_code 30 = .ok (.aload_n 0, 1) := by decide +kernel
theorem dShelf_differentWords_31 : decode prog_7_method_9_code 31 = .ok (.aload 5, 2) := by decide +kernel
theorem dShelf_differentWords_33 : decode prog_7_method_9_code 33 = .ok (.iload_n 1, 1) := by decide +kernel
theorem dShelf_differentWords_34 : decode prog_7_method_9_code 34 = .ok (.invokevirtual 36, 3) := by decide +kernel
theorem dShelf_differentWords_37 : decode prog_7_method_9_code 37 = .ok (.istore_n 1, 1) := by decide +kernel
theorem dShelf_differentWords_38 : decode prog_7_method_9_code 38 = .ok (.iinc 4 1, 3) := by decide +kernel
theorem dShelf_differentWords_41 : decode prog_7_method_9_code 41 = .ok (.goto (-28), 3) := by decide +kernel
theorem dShelf_differentWords_44 : decode prog_7_method_9_code 44 = .ok (.iload_n 1, 1) := by decide +kernel
theorem dShelf_differentWords_45 : decode prog_7_method_9_code 45 = .ok (.ireturn, 1) := by decide +kernel
theorem dShelf_noteNewWords_0 : decode prog_7_method_10_code 0 = .ok (.iload_n 2, 1) := by decide +kernel
theorem dShelf_noteNewWords_1 : decode prog_7_method_10_code 1 = .ok (.istore_n 3, 1) := by decide +kernel
theorem dShelf_noteNewWords_2 : decode prog_7_method_10_code 2 = .ok (.aload_n 1, 1) := by decide +kernel
theorem dShelf_noteNewWords_3 : decode prog_7_method_10_code 3 = .ok (.getfield 29, 3) := by decide +kernel
theorem dShelf_noteNewWords_6 : decode prog_7_method_10_code 6 = .ok (.astore 4, 2) := by decide +kernel
theorem dShelf_noteNewWords_8 : decode prog_7_method_10_code 8 = .ok (.aload 4, 2) := by decide +kernel
theorem dShelf_noteNewWords_10 : decode prog_7_method_10_code 10 = .ok (.arraylength, 1) := by decide +kernel
theorem dShelf_noteNewWords_11 : decode prog_7_method_10_code 11 = .ok (.istore 5, 2) := by decide +kernel
theorem dShelf_noteNewWords_13 : decode prog_7_method_10_code 13 = .ok (.iconst 0, 1) := by decide +kernel
theorem dShelf_noteNewWords_14 : decode prog_7_method_10_code 14 = .ok (.istore 6, 2) := by decide +kernel
theorem dShelf_noteNewWords_16 : decode prog_7_method_10_code 16 = .ok (.iload 6, 2) := by decide +kernel
theorem dShelf_noteNewWords_18 : decode prog_7_method_10_code 18 = .ok (.iload 5, 2) := by decide +kernel
theorem dShelf_noteNewWords_20 : decode prog_7_method_10_code 20 = .ok (.if_icmp .ge 46, 3) := by decide +kernel
theorem dShelf_noteNewWords_23 : decode prog_7_method_10_code 23 = .ok (.aload 4, 2) := by decide +kernel
theorem dShelf_noteNewWords_25 : decode prog_7_method_10_code 25 = .ok (.iload 6, 2) := by decide +kernel
theorem dShelf_noteNewWords_27 : decode prog_7_method_10_code 27 = .ok (.laload, 1) := by decide +kernel
theorem dShelf_noteNewWords_28 : decode prog_7_method_10_code 28 = .ok (.lstore 7, 2) := by decide +kernel
theorem dShelf_noteNewWords_30 : decode prog_7_method_10_code 30 = .ok (.iload_n 3, 1) := by decide +kernel
theorem dShelf_noteNewWords_31 : decode prog_7_method_10_code 31 = .ok (.aload_n 0, 1) := by decide +kernel
theorem dShelf_noteNewWords_32 : decode prog_7_method_10_code 32 = .ok (.getfield 17, 3) := by decide +kernel
theorem dShelf_noteNewWords_35 : decode prog_7_method_10_code 35 = .ok (.arraylength, 1) := by decide +kernel
theorem dShelf_noteNewWords_36 : decode prog_7_method_10_code 36 = .ok (.if_icmp .ge 24, 3) := by decide +kernel
theorem dShelf_noteNewWords_39 : decode prog_7_method_10_code 39 = .ok (.aload_n 0, 1) := by decide +kernel
theorem dShelf_noteNewWords_40 : decode prog_7_method_10_code 40 = .ok (.lload 7, 2) := by decide +kernel
theorem dShelf_noteNewWords_42 : decode prog_7_method_10_code 42 = .ok (.iload_n 3, 1) := by decide +kernel
theorem dShelf_noteNewWords_43 : decode prog_7_method_10_code 43 = .ok (.invokevirtual 40, 3) := by decide +kernel
theorem dShelf_noteNewWords_46 : decode prog_7_method_10_code 46 = .ok (.ifCond .ne 14, 3) := by decide +kernel
theorem dShelf_noteNewWords_49 : decode prog_7_method_10_code 49 = .ok (.aload_n 0, 1) := by decide +kernel
theorem dShelf_noteNewWords_50 : decode prog_7_method_10_code 50 = .ok (.getfield 17, 3) := by decide +kernel
theorem dShelf_noteNewWords_53 : decode prog_7_method_10_code 53 = .ok (.iload_n 3, 1) := by decide +kernel
theorem dShelf_noteNewWords_54 : decode prog_7_method_10_code 54 = .ok (.lload 7, 2) := by decide +kernel
theorem dShelf_noteNewWords_56 : decode prog_7_method_10_code 56 = .ok (.lastore, 1) := by decide +kernel
theorem dShelf_noteNewWords_57 : decode prog_7_method_10_code 57 = .ok (.iinc 3 1, 3) := by decide +kernel
theorem dShelf_noteNewWords_60 : decode prog_7_method_10_code 60 = .ok (.iinc 6 1, 3) := by decide +kernel
theorem dShelf_noteNewWords_63 : decode prog_7_method_10_code 63 = .ok (.goto (-47), 3) := by decide +kernel
theorem dShelf_noteNewWords_66 : decode prog_7_method_10_code 66 = .ok (.iload_n 3, 1) := by decide +kernel
theorem dShelf_noteNewWords_67 : decode prog_7_method_10_code 67 = .ok (.ireturn, 1) := by decide +kernel
theorem dShelf_isSeen_0 : decode prog_7_method_11_code 0 = .ok (.iconst 0, 1) := by decide +kernel
theorem dShelf_isSeen_1 : decode prog_7_method_11_code 1 = .ok (.istore 4, 2) := by decide +kernel
theorem dShelf_isSeen_3 : decode prog_7_method_11_code 3 = .ok (.iload 4, 2) := by decide +kernel
theorem dShelf_isSeen_5 : decode prog_7_method_11_code 5 = .ok (.iload_n 3, 1) := by decide +kernel
theorem dShelf_isSeen_6 : decode prog_7_method_11_code 6 = .ok (.if_icmp .ge 23, 3) := by decide +kernel
theorem dShelf_isSeen_9 : decode prog_7_method_11_code 9 = .ok (.aload_n 0, 1) := by decide +kernel
theorem dShelf_isSeen_10 : decode prog_7_method_11_code 10 = .ok (.getfield 17, 3) := by decide +kernel
theorem dShelf_isSeen_13 : decode prog_7_method_11_code 13 = .ok (.iload 4, 2) := by decide +kernel
theorem dShelf_isSeen_15 : decode prog_7_method_11_code 15 = .ok (.laload, 1) := by decide +kernel
theorem dShelf_isSeen_16 : decode prog_7_method_11_code 16 = .ok (.lload_n 1, 1) := by decide +kernel
theorem dShelf_isSeen_17 : decode prog_7_method_11_code 17 = .ok (.lcmp, 1) := by decide +kernel
theorem dShelf_isSeen_18 : decode prog_7_method_11_code 18 = .ok (.ifCond .ne 5, 3) := by decide +kernel
theorem dShelf_isSeen_21 : decode prog_7_method_11_code 21 = .ok (.iconst 1, 1) := by decide +kernel
theorem dShelf_isSeen_22 : decode prog_7_method_11_code 22 = .ok (.ireturn, 1) := by decide +kernel
theorem dShelf_isSeen_23 : decode prog_7_method_11_code 23 = .ok (.iinc 4 1, 3) := by decide +kernel
theorem dShelf_isSeen_26 : decode prog_7_method_11_code 26 = .ok (.goto (-23), 3) := by decide +kernel
theorem dShelf_isSeen_29 : decode prog_7_method_11_code 29 = .ok (.iconst 0, 1) := by decide +kernel
theorem dShelf_isSeen_30 : decode prog_7_method_11_code 30 = .ok (.ireturn, 1) := by decide +kernel
theorem dWE_label_0 : decode prog_1_method_15_code 0 = .ok (.aload_n 0, 1) := by decide +kernel
theorem dWE_label_1 : decode prog_1_method_15_code 1 = .ok (.getfield 19, 3) := by decide +kernel
theorem dWE_label_4 : decode prog_1_method_15_code 4 = .ok (.iload_n 1, 1) := by decide +kernel
theorem dWE_label_5 : decode prog_1_method_15_code 5 = .ok (.invokevirtual 84, 3) := by decide +kernel
theorem dWE_label_8 : decode prog_1_method_15_code 8 = .ok (.astore_n 2, 1) := by decide +kernel
theorem dWE_label_9 : decode prog_1_method_15_code 9 = .ok (.aload_n 2, 1) := by decide +kernel
theorem dWE_label_10 : decode prog_1_method_15_code 10 = .ok (.ifnonnull 7, 3) := by decide +kernel
theorem dWE_label_13 : decode prog_1_method_15_code 13 = .ok (.iconst (-1), 1) := by decide +kernel
theorem dWE_label_14 : decode prog_1_method_15_code 14 = .ok (.goto 7, 3) := by decide +kernel
theorem dWE_label_17 : decode prog_1_method_15_code 17 = .ok (.aload_n 2, 1) := by decide +kernel
theorem dWE_label_18 : decode prog_1_method_15_code 18 = .ok (.getfield 111, 3) := by decide +kernel
theorem dWE_label_21 : decode prog_1_method_15_code 21 = .ok (.ireturn, 1) := by decide +kernel
theorem dWE_classify_0 : decode prog_1_method_16_code 0 = .ok (.aload_n 0, 1) := by decide +kernel
theorem dWE_classify_1 : decode prog_1_method_16_code 1 = .ok (.getfield 19, 3) := by decide +kernel
theorem dWE_classify_4 : decode prog_1_method_16_code 4 = .ok (.invokevirtual 88, 3) := by decide +kernel
theorem dWE_classify_7 : decode prog_1_method_16_code 7 = .ok (.ifCond .ne 7, 3) := by decide +kernel
theorem dWE_classify_10 : decode prog_1_method_16_code 10 = .ok (.iconst (-1), 1) := by decide +kernel
theorem dWE_classify_11 : decode prog_1_method_16_code 11 = .ok (.goto 8, 3) := by decide +kernel
theorem dWE_classify_14 : decode prog_1_method_16_code 14 = .ok (.aload_n 0, 1) := by decide +kernel
theorem dWE_classify_15 : decode prog_1_method_16_code 15 = .ok (.iconst 0, 1) := by decide +kernel
theorem dWE_classify_16 : decode prog_1_method_16_code 16 = .ok (.invokevirtual 139, 3) := by decide +kernel
theorem dWE_classify_19 : decode prog_1_method_16_code 19 = .ok (.ireturn, 1) := by decide +kernel
theorem dWE_order_0 : decode prog_1_method_17_code 0 = .ok (.aload_n 0, 1) := by decide +kernel
theorem dWE_order_1 : decode prog_1_method_17_code 1 = .ok (.iload_n 1, 1) := by decide +kernel
theorem dWE_order_2 : decode prog_1_method_17_code 2 = .ok (.invokevirtual 81, 3) := by decide +kernel
theorem dWE_order_5 : decode prog_1_method_17_code 5 = .ok (.ifCond .ne 5, 3) := by decide +kernel
theorem dWE_order_8 : decode prog_1_method_17_code 8 = .ok (.iconst (-1), 1) := by decide +kernel
theorem dWE_order_9 : decode prog_1_method_17_code 9 = .ok (.ireturn, 1) := by decide +kernel
theorem dWE_order_10 : decode prog_1_method_17_code 10 = .ok (.aload_n 0, 1) := by decide +kernel
theorem dWE_order_11 : decode prog_1_method_17_code 11 = .ok (.getfield 36, 3) := by decide +kernel
theorem dWE_order_14 : decode prog_1_method_17_code 14 = .ok (.aload_n 0, 1) := by decide +kernel
theorem dWE_order_15 : decode prog_1_method_17_code 15 = .ok (.getfield 19, 3) := by decide +kernel
theorem dWE_order_18 : decode prog_1_method_17_code 18 = .ok (.aload_n 0, 1) := by decide +kernel
theorem dWE_order_19 : decode prog_1_method_17_code 19 = .ok (.getfield 10, 3) := by decide +kernel
theorem dWE_order_22 : decode prog_1_method_17_code 22 = .ok (.aload_n 0, 1) := by decide +kernel
theorem dWE_order_23 : decode prog_1_method_17_code 23 = .ok (.getfield 49, 3) := by decide +kernel
theorem dWE_order_26 : decode prog_1_method_17_code 26 = .ok (.invokevirtual 142, 3) := by decide +kernel
theorem dWE_order_29 : decode prog_1_method_17_code 29 = .ok (.aload_n 0, 1) := by decide +kernel
theorem dWE_order_30 : decode prog_1_method_17_code 30 = .ok (.getfield 36, 3) := by decide +kernel
theorem dWE_order_33 : decode prog_1_method_17_code 33 = .ok (.iload_n 1, 1) := by decide +kernel
theorem dWE_order_34 : decode prog_1_method_17_code 34 = .ok (.invokevirtual 146, 3) := by decide +kernel
theorem dWE_order_37 : decode prog_1_method_17_code 37 = .ok (.ireturn, 1) := by decide +kernel
theorem dChances_weigh_0 : decode prog_2_method_2_code 0 = .ok (.aload_n 0, 1) := by decide +kernel
theorem dChances_weigh_1 : decode prog_2_method_2_code 1 = .ok (.iload_n 3, 1) := by decide +kernel
theorem dChances_weigh_2 : decode prog_2_method_2_code 2 = .ok (.putfield 33, 3) := by decide +kernel
theorem dChances_weigh_5 : decode prog_2_method_2_code 5 = .ok (.aload_n 0, 1) := by decide +kernel
theorem dChances_weigh_6 : decode prog_2_method_2_code 6 = .ok (.aload_n 2, 1) := by decide +kernel
theorem dChances_weigh_7 : decode prog_2_method_2_code 7 = .ok (.getfield 40, 3) := by decide +kernel
theorem dChances_weigh_10 : decode prog_2_method_2_code 10 = .ok (.putfield 37, 3) := by decide +kernel
theorem dChances_weigh_13 : decode prog_2_method_2_code 13 = .ok (.aload_n 1, 1) := by decide +kernel
theorem dChances_weigh_14 : decode prog_2_method_2_code 14 = .ok (.invokevirtual 43, 3) := by decide +kernel
theorem dChances_weigh_17 : decode prog_2_method_2_code 17 = .ok (.istore 4, 2) := by decide +kernel
theorem dChances_weigh_19 : decode prog_2_method_2_code 19 = .ok (.iconst 0, 1) := by decide +kernel
theorem dChances_weigh_20 : decode prog_2_method_2_code 20 = .ok (.istore 5, 2) := by decide +kernel
theorem dChances_weigh_22 : decode prog_2_method_2_code 22 = .ok (.iload 5, 2) := by decide +kernel
theorem dChances_weigh_24 : decode prog_2_method_2_code 24 = .ok (.aload_n 0, 1) := by decide +kernel
theorem dChances_weigh_25 : decode prog_2_method_2_code 25 = .ok (.getfield 33, 3) := by decide +kernel
theorem dChances_weigh_28 : decode prog_2_method_2_code 28 = .ok (.if_icmp .ge 83, 3) := by decide +kernel
theorem dChances_weigh_31 : decode prog_2_method_2_code 31 = .ok (.aload_n 0, 1) := by decide +kernel
theorem dChances_weigh_32 : decode prog_2_method_2_code 32 = .ok (.getfield 9, 3) := by decide +kernel
theorem dChances_weigh_35 : decode prog_2_method_2_code 35 = .ok (.iload 5, 2) := by decide +kernel
theorem dChances_weigh_37 : decode prog_2_method_2_code 37 = .ok (.aload_n 1, 1) := by decide +kernel
theorem dChances_weigh_38 : decode prog_2_method_2_code 38 = .ok (.iload 5, 2) := by decide +kernel
theorem dChances_weigh_40 : decode prog_2_method_2_code 40 = .ok (.invokevirtual 49, 3) := by decide +kernel
theorem dChances_weigh_43 : decode prog_2_method_2_code 43 = .ok (.iastore, 1) := by decide +kernel
theorem dChances_weigh_44 : decode prog_2_method_2_code 44 = .ok (.aload_n 0, 1) := by decide +kernel
theorem dChances_weigh_45 : decode prog_2_method_2_code 45 = .ok (.getfield 20, 3) := by decide +kernel
theorem dChances_weigh_48 : decode prog_2_method_2_code 48 = .ok (.iload 5, 2) := by decide +kernel
theorem dChances_weigh_50 : decode prog_2_method_2_code 50 = .ok (.aload_n 1, 1) := by decide +kernel
theorem dChances_weigh_51 : decode prog_2_method_2_code 51 = .ok (.iload 5, 2) := by decide +kernel
theorem dChances_weigh_53 : decode prog_2_method_2_code 53 = .ok (.invokevirtual 53, 3) := by decide +kernel
theorem dChances_weigh_56 : decode prog_2_method_2_code 56 = .ok (.iload 4, 2) := by decide +kernel
theorem dChances_weigh_58 : decode prog_2_method_2_code 58 = .ok (.iadd, 1) := by decide +kernel
theorem dChances_weigh_59 : decode prog_2_method_2_code 59 = .ok (.iconst 1, 1) := by decide +kernel
theorem dChances_weigh_60 : decode prog_2_method_2_code 60 = .ok (.iadd, 1) := by decide +kernel
theorem dChances_weigh_61 : decode prog_2_method_2_code 61 = .ok (.iastore, 1) := by decide +kernel
theorem dChances_weigh_62 : decode prog_2_method_2_code 62 = .ok (.iconst 0, 1) := by decide +kernel
theorem dChances_weigh_63 : decode prog_2_method_2_code 63 = .ok (.istore 6, 2) := by decide +kernel
theorem dChances_weigh_65 : decode prog_2_method_2_code 65 = .ok (.iload 6, 2) := by decide +kernel
theorem dChances_weigh_67 : decode prog_2_method_2_code 67 = .ok (.aload_n 0, 1) := by decide +kernel
theorem dChances_weigh_68 : decode prog_2_method_2_code 68 = .ok (.getfield 37, 3) := by decide +kernel
theorem dChances_weigh_71 : decode prog_2_method_2_code 71 = .ok (.if_icmp .ge 34, 3) := by decide +kernel
theorem dChances_weigh_74 : decode prog_2_method_2_code 74 = .ok (.aload_n 0, 1) := by decide +kernel
theorem dChances_weigh_75 : decode prog_2_method_2_code 75 = .ok (.getfield 17, 3) := by decide +kernel
theorem dChances_weigh_78 : decode prog_2_method_2_code 78 = .ok (.iload 5, 2) := by decide +kernel
theorem dChances_weigh_80 : decode prog_2_method_2_code 80 = .ok (.aaload, 1) := by decide +kernel
theorem dChances_weigh_81 : decode prog_2_method_2_code 81 = .ok (.iload 6, 2) := by decide +kernel
theorem dChances_weigh_83 : decode prog_2_method_2_code 83 = .ok (.aload_n 1, 1) := by decide +kernel
theorem dChances_weigh_84 : decode prog_2_method_2_code 84 = .ok (.iload 5, 2) := by decide +kernel
theorem dChances_weigh_86 : decode prog_2_method_2_code 86 = .ok (.aload_n 2, 1) := by decide +kernel
theorem dChances_weigh_87 : decode prog_2_method_2_code 87 = .ok (.getfield 56, 3) := by decide +kernel
theorem dChances_weigh_90 : decode prog_2_method_2_code 90 = .ok (.iload 6, 2) := by decide +kernel
theorem dChances_weigh_92 : decode prog_2_method_2_code 92 = .ok (.laload, 1) := by decide +kernel
theorem dChances_weigh_93 : decode prog_2_method_2_code 93 = .ok (.invokevirtual 60, 3) := by decide +kernel
theorem dChances_weigh_96 : decode prog_2_method_2_code 96 = .ok (.iconst 1, 1) := by decide +kernel
theorem dChances_weigh_97 : decode prog_2_method_2_code 97 = .ok (.iadd, 1) := by decide +kernel
theorem dChances_weigh_98 : decode prog_2_method_2_code 98 = .ok (.iastore, 1) := by decide +kernel
theorem dChances_weigh_99 : decode prog_2_method_2_code 99 = .ok (.iinc 6 1, 3) := by decide +kernel
theorem dChances_weigh_102 : decode prog_2_method_2_code 102 = .ok (.goto (-37), 3) := by decide +kernel
theorem dChances_weigh_105 : decode prog_2_method_2_code 105 = .ok (.iinc 5 1, 3) := by decide +kernel
theorem dChances_weigh_108 : decode prog_2_method_2_code 108 = .ok (.goto (-86), 3) := by decide +kernel
theorem dChances_weigh_111 : decode prog_2_method_2_code 111 = .ok (.return_, 1) := by decide +kernel
theorem dChances_classAt_0 : decode prog_2_method_3_code 0 = .ok (.iconst 0, 1) := by decide +kernel
theorem dChances_classAt_1 : decode prog_2_method_3_code 1 = .ok (.istore_n 2, 1) := by decide +kernel
theorem dChances_classAt_2 : decode prog_2_method_3_code 2 = .ok (.iload_n 2, 1) := by decide +kernel
theorem dChances_classAt_3 : decode prog_2_method_3_code 3 = .ok (.aload_n 0, 1) := by decide +kernel
theorem dChances_classAt_4 : decode prog_2_method_3_code 4 = .ok (.getfield 33, 3) := by decide +kernel
theorem dChances_classAt_7 : decode prog_2_method_3_code 7 = .ok (.if_icmp .ge 20, 3) := by decide +kernel
theorem dChances_classAt_10 : decode prog_2_method_3_code 10 = .ok (.aload_n 0, 1) := by decide +kernel
theorem dChances_classAt_11 : decode prog_2_method_3_code 11 = .ok (.iload_n 2, 1) := by decide +kernel
theorem dChances_classAt_12 : decode prog_2_method_3_code 12 = .ok (.invokevirtual 64, 3) := by decide +kernel
theorem dChances_classAt_15 : decode prog_2_method_3_code 15 = .ok (.iload_n 1, 1) := by decide +kernel
theorem dChances_classAt_16 : decode prog_2_method_3_code 16 = .ok (.if_icmp .ne 5, 3) := by decide +kernel
theorem dChances_classAt_19 : decode prog_2_method_3_code 19 = .ok (.iload_n 2, 1) := by decide +kernel
theorem dChances_classAt_20 : decode prog_2_method_3_code 20 = .ok (.ireturn, 1) := by decide +kernel
theorem dChances_classAt_21 : decode prog_2_method_3_code 21 = .ok (.iinc 2 1, 3) := by decide +kernel
theorem dChances_classAt_24 : decode prog_2_method_3_code 24 = .ok (.goto (-22), 3) := by decide +kernel
theorem dChances_classAt_27 : decode prog_2_method_3_code 27 = .ok (.iconst (-1), 1) := by decide +kernel
theorem dChances_classAt_28 : decode prog_2_method_3_code 28 = .ok (.ireturn, 1) := by decide +kernel
theorem dChances_placeOf_0 : decode prog_2_method_4_code 0 = .ok (.iconst 0, 1) := by decide +kernel
theorem dChances_placeOf_1 : decode prog_2_method_4_code 1 = .ok (.istore_n 2, 1) := by decide +kernel
theorem dChances_placeOf_2 : decode prog_2_method_4_code 2 = .ok (.iconst 0, 1) := by decide +kernel
theorem dChances_placeOf_3 : decode prog_2_method_4_code 3 = .ok (.istore_n 3, 1) := by decide +kernel
theorem dChances_placeOf_4 : decode prog_2_method_4_code 4 = .ok (.iload_n 3, 1) := by decide +kernel
theorem dChances_placeOf_5 : decode prog_2_method_4_code 5 = .ok (.aload_n 0, 1) := by decide +kernel
theorem dChances_placeOf_6 : decode prog_2_method_4_code 6 = .ok (.getfield 33, 3) := by decide +kernel
theorem dChances_placeOf_9 : decode prog_2_method_4_code 9 = .ok (.if_icmp .ge 35, 3) := by decide +kernel
theorem dChances_placeOf_12 : decode prog_2_method_4_code 12 = .ok (.aload_n 0, 1) := by decide +kernel
theorem dChances_placeOf_13 : decode prog_2_method_4_code 13 = .ok (.iload_n 3, 1) := by decide +kernel
theorem dChances_placeOf_14 : decode prog_2_method_4_code 14 = .ok (.iload_n 1, 1) := by decide +kernel
theorem dChances_placeOf_15 : decode prog_2_method_4_code 15 = .ok (.invokevirtual 67, 3) := by decide +kernel
theorem dChances_placeOf_18 : decode prog_2_method_4_code 18 = .ok (.istore 4, 2) := by decide +kernel
theorem dChances_placeOf_20 : decode prog_2_method_4_code 20 = .ok (.iload 4, 2) := by decide +kernel
theorem dChances_placeOf_22 : decode prog_2_method_4_code 22 = .ok (.ifCond .gt 13, 3) := by decide +kernel
theorem dChances_placeOf_25 : decode prog_2_method_4_code 25 = .ok (.iload 4, 2) := by decide +kernel
theorem dChances_placeOf_27 : decode prog_2_method_4_code 27 = .ok (.ifCond .ne 11, 3) := by decide +kernel
theorem dChances_placeOf_30 : decode prog_2_method_4_code 30 = .ok (.iload_n 3, 1) := by decide +kernel
theorem dChances_placeOf_31 : decode prog_2_method_4_code 31 = .ok (.iload_n 1, 1) := by decide +kernel
theorem dChances_placeOf_32 : decode prog_2_method_4_code 32 = .ok (.if_icmp .ge 6, 3) := by decide +kernel
theorem dChances_placeOf_35 : decode prog_2_method_4_code 35 = .ok (.iinc 2 1, 3) := by decide +kernel
theorem dChances_placeOf_38 : decode prog_2_method_4_code 38 = .ok (.iinc 3 1, 3) := by decide +kernel
theorem dChances_placeOf_41 : decode prog_2_method_4_code 41 = .ok (.goto (-37), 3) := by decide +kernel
theorem dChances_placeOf_44 : decode prog_2_method_4_code 44 = .ok (.iload_n 2, 1) := by decide +kernel
theorem dChances_placeOf_45 : decode prog_2_method_4_code 45 = .ok (.ireturn, 1) := by decide +kernel
theorem dChances_signOf_0 : decode prog_2_method_5_code 0 = .ok (.aload_n 0, 1) := by decide +kernel
theorem dChances_signOf_1 : decode prog_2_method_5_code 1 = .ok (.aload_n 0, 1) := by decide +kernel
theorem dChances_signOf_2 : decode prog_2_method_5_code 2 = .ok (.getfield 26, 3) := by decide +kernel
theorem dChances_signOf_5 : decode prog_2_method_5_code 5 = .ok (.iload_n 1, 1) := by decide +kernel
theorem dChances_signOf_6 : decode prog_2_method_5_code 6 = .ok (.iload_n 2, 1) := by decide +kernel
theorem dChances_signOf_7 : decode prog_2_method_5_code 7 = .ok (.invokevirtual 71, 3) := by decide +kernel
theorem dChances_signOf_10 : decode prog_2_method_5_code 10 = .ok (.aload_n 0, 1) := by decide +kernel
theorem dChances_signOf_11 : decode prog_2_method_5_code 11 = .ok (.aload_n 0, 1) := by decide +kernel
theorem dChances_signOf_12 : decode prog_2_method_5_code 12 = .ok (.getfield 30, 3) := by decide +kernel
theorem dChances_signOf_15 : decode prog_2_method_5_code 15 = .ok (.iload_n 2, 1) := by decide +kernel
theorem dChances_signOf_16 : decode prog_2_method_5_code 16 = .ok (.iload_n 1, 1) := by decide +kernel
theorem dChances_signOf_17 : decode prog_2_method_5_code 17 = .ok (.invokevirtual 71, 3) := by decide +kernel
theorem dChances_signOf_20 : decode prog_2_method_5_code 20 = .ok (.aload_n 0, 1) := by decide +kernel
theorem dChances_signOf_21 : decode prog_2_method_5_code 21 = .ok (.getfield 26, 3) := by decide +kernel
theorem dChances_signOf_24 : decode prog_2_method_5_code 24 = .ok (.aload_n 0, 1) := by decide +kernel
theorem dChances_signOf_25 : decode prog_2_method_5_code 25 = .ok (.getfield 30, 3) := by decide +kernel
theorem dChances_signOf_28 : decode prog_2_method_5_code 28 = .ok (.invokevirtual 75, 3) := by decide +kernel
theorem dChances_signOf_31 : decode prog_2_method_5_code 31 = .ok (.ireturn, 1) := by decide +kernel
theorem dChances_multiplyOut_0 : decode prog_2_method_6_code 0 = .ok (.aload_n 1, 1) := by decide +kernel
theorem dChances_multiplyOut_1 : decode prog_2_method_6_code 1 = .ok (.aload_n 0, 1) := by decide +kernel
theorem dChances_multiplyOut_2 : decode prog_2_method_6_code 2 = .ok (.getfield 9, 3) := by decide +kernel
theorem dChances_multiplyOut_5 : decode prog_2_method_6_code 5 = .ok (.iload_n 2, 1) := by decide +kernel
theorem dChances_multiplyOut_6 : decode prog_2_method_6_code 6 = .ok (.iaload, 1) := by decide +kernel
theorem dChances_multiplyOut_7 : decode prog_2_method_6_code 7 = .ok (.invokevirtual 79, 3) := by decide +kernel
theorem dChances_multiplyOut_10 : decode prog_2_method_6_code 10 = .ok (.iconst 0, 1) := by decide +kernel
theorem dChances_multiplyOut_11 : decode prog_2_method_6_code 11 = .ok (.istore 4, 2) := by decide +kernel
theorem dChances_multiplyOut_13 : decode prog_2_method_6_code 13 = .ok (.iload 4, 2) := by decide +kernel
theorem dChances_multiplyOut_15 : decode prog_2_method_6_code 15 = .ok (.aload_n 0, 1) := by decide +kernel
theorem dChances_multiplyOut_16 : decode prog_2_method_6_code 16 = .ok (.getfield 37, 3) := by decide +kernel
theorem dChances_multiplyOut_19 : decode prog_2_method_6_code 19 = .ok (.if_icmp .ge 32, 3) := by decide +kernel
theorem dChances_multiplyOut_22 : decode prog_2_method_6_code 22 = .ok (.aload_n 1, 1) := by decide +kernel
theorem dChances_multiplyOut_23 : decode prog_2_method_6_code 23 = .ok (.aload_n 0, 1) := by decide +kernel
theorem dChances_multiplyOut_24 : decode prog_2_method_6_code 24 = .ok (.getfield 17, 3) := by decide +kernel
theorem dChances_multiplyOut_27 : decode prog_2_method_6_code 27 = .ok (.iload_n 2, 1) := by decide +kernel
theorem dChances_multiplyOut_28 : decode prog_2_method_6_code 28 = .ok (.aaload, 1) := by decide +kernel
theorem dChances_multiplyOut_29 : decode prog_2_method_6_code 29 = .ok (.iload 4, 2) := by decide +kernel
theorem dChances_multiplyOut_31 : decode prog_2_method_6_code 31 = .ok (.iaload, 1) := by decide +kernel
theorem dChances_multiplyOut_32 : decode prog_2_method_6_code 32 = .ok (.invokevirtual 83, 3) := by decide +kernel
theorem dChances_multiplyOut_35 : decode prog_2_method_6_code 35 = .ok (.aload_n 1, 1) := by decide +kernel
theorem dChances_multiplyOut_36 : decode prog_2_method_6_code 36 = .ok (.aload_n 0, 1) := by decide +kernel
theorem dChances_multiplyOut_37 : decode prog_2_method_6_code 37 = .ok (.getfield 20, 3) := by decide +kernel
theorem dChances_multiplyOut_40 : decode prog_2_method_6_code 40 = .ok (.iload_n 3, 1) := by decide +kernel
theorem dChances_multiplyOut_41 : decode prog_2_method_6_code 41 = .ok (.iaload, 1) := by decide +kernel
theorem dChances_multiplyOut_42 : decode prog_2_method_6_code 42 = .ok (.invokevirtual 83, 3) := by decide +kernel
theorem dChances_multiplyOut_45 : decode prog_2_method_6_code 45 = .ok (.iinc 4 1, 3) := by decide +kernel
theorem dChances_multiplyOut_48 : decode prog_2_method_6_code 48 = .ok (.goto (-35), 3) := by decide +kernel
theorem dChances_multiplyOut_51 : decode prog_2_method_6_code 51 = .ok (.return_, 1) := by decide +kernel
theorem dProduct_start_0 : decode prog_6_method_2_code 0 = .ok (.aload_n 0, 1) := by decide +kernel
theorem dProduct_start_1 : decode prog_6_method_2_code 1 = .ok (.getfield 9, 3) := by decide +kernel
theorem dProduct_start_4 : decode prog_6_method_2_code 4 = .ok (.lconst 0, 1) := by decide +kernel
theorem dProduct_start_5 : decode prog_6_method_2_code 5 = .ok (.invokestatic 13, 3) := by decide +kernel
theorem dProduct_start_8 : decode prog_6_method_2_code 8 = .ok (.aload_n 0, 1) := by decide +kernel
theorem dProduct_start_9 : decode prog_6_method_2_code 9 = .ok (.getfield 9, 3) := by decide +kernel
theorem dProduct_start_12 : decode prog_6_method_2_code 12 = .ok (.iconst 0, 1) := by decide +kernel
theorem dProduct_start_13 : decode prog_6_method_2_code 13 = .ok (.iload_n 1, 1) := by decide +kernel
theorem dProduct_start_14 : decode prog_6_method_2_code 14 = .ok (.i2l, 1) := by decide +kernel
theorem dProduct_start_15 : decode prog_6_method_2_code 15 = .ok (.lastore, 1) := by decide +kernel
theorem dProduct_start_16 : decode prog_6_method_2_code 16 = .ok (.return_, 1) := by decide +kernel
theorem dArrays_fill_0 : decode prog_14_method_101_code 0 = .ok (.iconst 0, 1) := by decide +kernel
theorem dArrays_fill_1 : decode prog_14_method_101_code 1 = .ok (.istore_n 3, 1) := by decide +kernel
theorem dArrays_fill_2 : decode prog_14_method_101_code 2 = .ok (.aload_n 0, 1) := by decide +kernel
theorem dArrays_fill_3 : decode prog_14_method_101_code 3 = .ok (.arraylength, 1) := by decide +kernel
theorem dArrays_fill_4 : decode prog_14_method_101_code 4 = .ok (.istore 4, 2) := by decide +kernel
theorem dArrays_fill_6 : decode prog_14_method_101_code 6 = .ok (.iload_n 3, 1) := by decide +kernel
theorem dArrays_fill_7 : decode prog_14_method_101_code 7 = .ok (.iload 4, 2) := by decide +kernel
theorem dArrays_fill_9 : decode prog_14_method_101_code 9 = .ok (.if_icmp .ge 13, 3) := by decide +kernel
theorem dArrays_fill_12 : decode prog_14_method_101_code 12 = .ok (.aload_n 0, 1) := by decide +kernel
theorem dArrays_fill_13 : decode prog_14_method_101_code 13 = .ok (.iload_n 3, 1) := by decide +kernel
theorem dArrays_fill_14 : decode prog_14_method_101_code 14 = .ok (.lload_n 1, 1) := by decide +kernel
theorem dArrays_fill_15 : decode prog_14_method_101_code 15 = .ok (.lastore, 1) := by decide +kernel
theorem dArrays_fill_16 : decode prog_14_method_101_code 16 = .ok (.iinc 3 1, 3) := by decide +kernel
theorem dArrays_fill_19 : decode prog_14_method_101_code 19 = .ok (.goto (-13), 3) := by decide +kernel
theorem dArrays_fill_22 : decode prog_14_method_101_code 22 = .ok (.return_, 1) := by decide +kernel
theorem dProduct_times_0 : decode prog_6_method_3_code 0 = .ok (.lconst 0, 1) := by decide +kernel
theorem dProduct_times_1 : decode prog_6_method_3_code 1 = .ok (.lstore_n 2, 1) := by decide +kernel
theorem dProduct_times_2 : decode prog_6_method_3_code 2 = .ok (.iconst 0, 1) := by decide +kernel
theorem dProduct_times_3 : decode prog_6_method_3_code 3 = .ok (.istore 4, 2) := by decide +kernel
theorem dProduct_times_5 : decode prog_6_method_3_code 5 = .ok (.iload 4, 2) := by decide +kernel
theorem dProduct_times_7 : decode prog_6_method_3_code 7 = .ok (.bipush 12, 2) := by decide +kernel
theorem dProduct_times_9 : decode prog_6_method_3_code 9 = .ok (.if_icmp .ge 42, 3) := by decide +kernel
theorem dProduct_times_12 : decode prog_6_method_3_code 12 = .ok (.aload_n 0, 1) := by decide +kernel
theorem dProduct_times_13 : decode prog_6_method_3_code 13 = .ok (.getfield 9, 3) := by decide +kernel
theorem dProduct_times_16 : decode prog_6_method_3_code 16 = .ok (.iload 4, 2) := by decide +kernel
theorem dProduct_times_18 : decode prog_6_method_3_code 18 = .ok (.laload, 1) := by decide +kernel
theorem dProduct_times_19 : decode prog_6_method_3_code 19 = .ok (.iload_n 1, 1) := by decide +kernel
theorem dProduct_times_20 : decode prog_6_method_3_code 20 = .ok (.i2l, 1) := by decide +kernel
theorem dProduct_times_21 : decode prog_6_method_3_code 21 = .ok (.lmul, 1) := by decide +kernel
theorem dProduct_times_22 : decode prog_6_method_3_code 22 = .ok (.lload_n 2, 1) := by decide +kernel
theorem dProduct_times_23 : decode prog_6_method_3_code 23 = .ok (.ladd, 1) := by decide +kernel
theorem dProduct_times_24 : decode prog_6_method_3_code 24 = .ok (.lstore 5, 2) := by decide +kernel
theorem dProduct_times_26 : decode prog_6_method_3_code 26 = .ok (.aload_n 0, 1) := by decide +kernel
theorem dProduct_times_27 : decode prog_6_method_3_code 27 = .ok (.getfield 9, 3) := by decide +kernel
theorem dProduct_times_30 : decode prog_6_method_3_code 30 = .ok (.iload 4, 2) := by decide +kernel
theorem dProduct_times_32 : decode prog_6_method_3_code 32 = .ok (.lload 5, 2) := by decide +kernel
theorem dProduct_times_34 : decode prog_6_method_3_code 34 = .ok (.ldc2_w 19, 3) := by decide +kernel
theorem dProduct_times_37 : decode prog_6_method_3_code 37 = .ok (.land, 1) := by decide +kernel
theorem dProduct_times_38 : decode prog_6_method_3_code 38 = .ok (.lastore, 1) := by decide +kernel
theorem dProduct_times_39 : decode prog_6_method_3_code 39 = .ok (.lload 5, 2) := by decide +kernel
theorem dProduct_times_41 : decode prog_6_method_3_code 41 = .ok (.bipush 32, 2) := by decide +kernel
theorem dProduct_times_43 : decode prog_6_method_3_code 43 = .ok (.lushr, 1) := by decide +kernel
theorem dProduct_times_44 : decode prog_6_method_3_code 44 = .ok (.lstore_n 2, 1) := by decide +kernel
theorem dProduct_times_45 : decode prog_6_method_3_code 45 = .ok (.iinc 4 1, 3) := by decide +kernel
theorem dProduct_times_48 : decode prog_6_method_3_code 48 = .ok (.goto (-43), 3) := by decide +kernel
theorem dProduct_times_51 : decode prog_6_method_3_code 51 = .ok (.return_, 1) := by decide +kernel
theorem dProduct_signAgainst_0 : decode prog_6_method_4_code 0 = .ok (.bipush 11, 2) := by decide +kernel
theorem dProduct_signAgainst_2 : decode prog_6_method_4_code 2 = .ok (.istore_n 2, 1) := by decide +kernel
theorem dProduct_signAgainst_3 : decode prog_6_method_4_code 3 = .ok (.iload_n 2, 1) := by decide +kernel
theorem dProduct_signAgainst_4 : decode prog_6_method_4_code 4 = .ok (.ifCond .lt 47, 3) := by decide +kernel
theorem dProduct_signAgainst_7 : decode prog_6_method_4_code 7 = .ok (.aload_n 0, 1) := by decide +kernel
theorem dProduct_signAgainst_8 : decode prog_6_method_4_code 8 = .ok (.getfield 9, 3) := by decide +kernel
theorem dProduct_signAgainst_11 : decode prog_6_method_4_code 11 = .ok (.iload_n 2, 1) := by decide +kernel
theorem dProduct_signAgainst_12 : decode prog_6_method_4_code 12 = .ok (.laload, 1) := by decide +kernel
theorem dProduct_signAgainst_13 : decode prog_6_method_4_code 13 = .ok (.aload_n 1, 1) := by decide +kernel
theorem dProduct_signAgainst_14 : decode prog_6_method_4_code 14 = .ok (.getfield 9, 3) := by decide +kernel
theorem dProduct_signAgainst_17 : decode prog_6_method_4_code 17 = .ok (.iload_n 2, 1) := by decide +kernel
theorem dProduct_signAgainst_18 : decode prog_6_method_4_code 18 = .ok (.laload, 1) := by decide +kernel
theorem dProduct_signAgainst_19 : decode prog_6_method_4_code 19 = .ok (.lcmp, 1) := by decide +kernel
theorem dProduct_signAgainst_20 : decode prog_6_method_4_code 20 = .ok (.ifCond .eq 25, 3) := by decide +kernel
theorem dProduct_signAgainst_23 : decode prog_6_method_4_code 23 = .ok (.aload_n 0, 1) := by decide +kernel
theorem dProduct_signAgainst_24 : decode prog_6_method_4_code 24 = .ok (.getfield 9, 3) := by decide +kernel
theorem dProduct_signAgainst_27 : decode prog_6_method_4_code 27 = .ok (.iload_n 2, 1) := by decide +kernel
theorem dProduct_signAgainst_28 : decode prog_6_method_4_code 28 = .ok (.laload, 1) := by decide +kernel
theorem dProduct_signAgainst_29 : decode prog_6_method_4_code 29 = .ok (.aload_n 1, 1) := by decide +kernel
theorem dProduct_signAgainst_30 : decode prog_6_method_4_code 30 = .ok (.getfield 9, 3) := by decide +kernel
end
section
theorem dProduct_signAgainst_33 : decode prog_6_method_4_code 33 = .ok (.iload_n 2, 1) := by decide +kernel
theorem dProduct_signAgainst_34 : decode prog_6_method_4_code 34 = .ok (.laload, 1) := by decide +kernel
theorem dProduct_signAgainst_35 : decode prog_6_method_4_code 35 = .ok (.lcmp, 1) := by decide +kernel
theorem dProduct_signAgainst_36 : decode prog_6_method_4_code 36 = .ok (.ifCond .le 7, 3) := by decide +kernel
theorem dProduct_signAgainst_39 : decode prog_6_method_4_code 39 = .ok (.iconst 1, 1) := by decide +kernel
theorem dProduct_signAgainst_40 : decode prog_6_method_4_code 40 = .ok (.goto 4, 3) := by decide +kernel
theorem dProduct_signAgainst_43 : decode prog_6_method_4_code 43 = .ok (.iconst (-1), 1) := by decide +kernel
theorem dProduct_signAgainst_44 : decode prog_6_method_4_code 44 = .ok (.ireturn, 1) := by decide +kernel
theorem dProduct_signAgainst_45 : decode prog_6_method_4_code 45 = .ok (.iinc 2 (-1), 3) := by decide +kernel
theorem dProduct_signAgainst_48 : decode prog_6_method_4_code 48 = .ok (.goto (-45), 3) := by decide +kernel
theorem dProduct_signAgainst_51 : decode prog_6_method_4_code 51 = .ok (.iconst 0, 1) := by decide +kernel
theorem dProduct_signAgainst_52 : decode prog_6_method_4_code 52 = .ok (.ireturn, 1) := by decide +kernel
theorem dWE_compare_0 : decode prog_1_method_18_code 0 = .ok (.aload_n 0, 1) := by decide +kernel
theorem dWE_compare_1 : decode prog_1_method_18_code 1 = .ok (.iload_n 1, 1) := by decide +kernel
theorem dWE_compare_2 : decode prog_1_method_18_code 2 = .ok (.invokevirtual 81, 3) := by decide +kernel
theorem dWE_compare_5 : decode prog_1_method_18_code 5 = .ok (.ifCond .eq 11, 3) := by decide +kernel
theorem dWE_compare_8 : decode prog_1_method_18_code 8 = .ok (.aload_n 0, 1) := by decide +kernel
theorem dWE_compare_9 : decode prog_1_method_18_code 9 = .ok (.iload_n 2, 1) := by decide +kernel
theorem dWE_compare_10 : decode prog_1_method_18_code 10 = .ok (.invokevirtual 81, 3) := by decide +kernel
theorem dWE_compare_13 : decode prog_1_method_18_code 13 = .ok (.ifCond .ne 6, 3) := by decide +kernel
theorem dWE_compare_16 : decode prog_1_method_18_code 16 = .ok (.bipush (-2), 2) := by decide +kernel
theorem dWE_compare_18 : decode prog_1_method_18_code 18 = .ok (.ireturn, 1) := by decide +kernel
theorem dWE_compare_19 : decode prog_1_method_18_code 19 = .ok (.aload_n 0, 1) := by decide +kernel
theorem dWE_compare_20 : decode prog_1_method_18_code 20 = .ok (.getfield 36, 3) := by decide +kernel
theorem dWE_compare_23 : decode prog_1_method_18_code 23 = .ok (.aload_n 0, 1) := by decide +kernel
theorem dWE_compare_24 : decode prog_1_method_18_code 24 = .ok (.getfield 19, 3) := by decide +kernel
theorem dWE_compare_27 : decode prog_1_method_18_code 27 = .ok (.aload_n 0, 1) := by decide +kernel
theorem dWE_compare_28 : decode prog_1_method_18_code 28 = .ok (.getfield 10, 3) := by decide +kernel
theorem dWE_compare_31 : decode prog_1_method_18_code 31 = .ok (.aload_n 0, 1) := by decide +kernel
theorem dWE_compare_32 : decode prog_1_method_18_code 32 = .ok (.getfield 49, 3) := by decide +kernel
theorem dWE_compare_35 : decode prog_1_method_18_code 35 = .ok (.invokevirtual 142, 3) := by decide +kernel
theorem dWE_compare_38 : decode prog_1_method_18_code 38 = .ok (.aload_n 0, 1) := by decide +kernel
theorem dWE_compare_39 : decode prog_1_method_18_code 39 = .ok (.getfield 36, 3) := by decide +kernel
theorem dWE_compare_42 : decode prog_1_method_18_code 42 = .ok (.iload_n 1, 1) := by decide +kernel
theorem dWE_compare_43 : decode prog_1_method_18_code 43 = .ok (.iload_n 2, 1) := by decide +kernel
theorem dWE_compare_44 : decode prog_1_method_18_code 44 = .ok (.invokevirtual 149, 3) := by decide +kernel
theorem dWE_compare_47 : decode prog_1_method_18_code 47 = .ok (.ireturn, 1) := by decide +kernel
theorem dLaw_cell_0 : decode method_2_code 0 = .ok (.iload_n 1, 1) := by decide +kernel
theorem dLaw_cell_1 : decode method_2_code 1 = .ok (.aload_n 0, 1) := by decide +kernel
theorem dLaw_cell_2 : decode method_2_code 2 = .ok (.arraylength, 1) := by decide +kernel
theorem dLaw_cell_3 : decode method_2_code 3 = .ok (.if_icmp .ge 9, 3) := by decide +kernel
theorem dLaw_cell_6 : decode method_2_code 6 = .ok (.aload_n 0, 1) := by decide +kernel
theorem dLaw_cell_7 : decode method_2_code 7 = .ok (.iload_n 1, 1) := by decide +kernel
theorem dLaw_cell_8 : decode method_2_code 8 = .ok (.iaload, 1) := by decide +kernel
theorem dLaw_cell_9 : decode method_2_code 9 = .ok (.goto 4, 3) := by decide +kernel
theorem dLaw_cell_12 : decode method_2_code 12 = .ok (.iconst 0, 1) := by decide +kernel
theorem dLaw_cell_13 : decode method_2_code 13 = .ok (.ireturn, 1) := by decide +kernel
theorem dMo_init_0 : decode prog_10_method_1_code 0 = .ok (.aload_n 0, 1) := by decide +kernel
theorem dMo_init_1 : decode prog_10_method_1_code 1 = .ok (.invokespecial 1, 3) := by decide +kernel
theorem dMo_init_4 : decode prog_10_method_1_code 4 = .ok (.aload_n 0, 1) := by decide +kernel
theorem dMo_init_5 : decode prog_10_method_1_code 5 = .ok (.bipush 40, 2) := by decide +kernel
theorem dMo_init_7 : decode prog_10_method_1_code 7 = .ok (.newarray .int, 2) := by decide +kernel
theorem dMo_init_9 : decode prog_10_method_1_code 9 = .ok (.putfield 7, 3) := by decide +kernel
theorem dMo_init_12 : decode prog_10_method_1_code 12 = .ok (.aload_n 0, 1) := by decide +kernel
theorem dMo_init_13 : decode prog_10_method_1_code 13 = .ok (.bipush 20, 2) := by decide +kernel
theorem dMo_init_15 : decode prog_10_method_1_code 15 = .ok (.newarray .long, 2) := by decide +kernel
theorem dMo_init_17 : decode prog_10_method_1_code 17 = .ok (.putfield 13, 3) := by decide +kernel
theorem dMo_init_20 : decode prog_10_method_1_code 20 = .ok (.aload_n 0, 1) := by decide +kernel
theorem dMo_init_21 : decode prog_10_method_1_code 21 = .ok (.sipush 160, 3) := by decide +kernel
theorem dMo_init_24 : decode prog_10_method_1_code 24 = .ok (.newarray .int, 2) := by decide +kernel
theorem dMo_init_26 : decode prog_10_method_1_code 26 = .ok (.putfield 17, 3) := by decide +kernel
theorem dMo_init_29 : decode prog_10_method_1_code 29 = .ok (.aload_n 0, 1) := by decide +kernel
theorem dMo_init_30 : decode prog_10_method_1_code 30 = .ok (.bipush 64, 2) := by decide +kernel
theorem dMo_init_32 : decode prog_10_method_1_code 32 = .ok (.newarray .int, 2) := by decide +kernel
theorem dMo_init_34 : decode prog_10_method_1_code 34 = .ok (.putfield 20, 3) := by decide +kernel
theorem dMo_init_37 : decode prog_10_method_1_code 37 = .ok (.aload_n 0, 1) := by decide +kernel
theorem dMo_init_38 : decode prog_10_method_1_code 38 = .ok (.bipush 64, 2) := by decide +kernel
theorem dMo_init_40 : decode prog_10_method_1_code 40 = .ok (.newarray .int, 2) := by decide +kernel
theorem dMo_init_42 : decode prog_10_method_1_code 42 = .ok (.putfield 23, 3) := by decide +kernel
theorem dMo_init_45 : decode prog_10_method_1_code 45 = .ok (.aload_n 0, 1) := by decide +kernel
theorem dMo_init_46 : decode prog_10_method_1_code 46 = .ok (.sipush 1280, 3) := by decide +kernel
theorem dMo_init_49 : decode prog_10_method_1_code 49 = .ok (.newarray .long, 2) := by decide +kernel
theorem dMo_init_51 : decode prog_10_method_1_code 51 = .ok (.putfield 26, 3) := by decide +kernel
theorem dMo_init_54 : decode prog_10_method_1_code 54 = .ok (.aload_n 0, 1) := by decide +kernel
theorem dMo_init_55 : decode prog_10_method_1_code 55 = .ok (.bipush 24, 2) := by decide +kernel
theorem dMo_init_57 : decode prog_10_method_1_code 57 = .ok (.newarray .int, 2) := by decide +kernel
theorem dMo_init_59 : decode prog_10_method_1_code 59 = .ok (.putfield 29, 3) := by decide +kernel
theorem dMo_init_62 : decode prog_10_method_1_code 62 = .ok (.aload_n 0, 1) := by decide +kernel
theorem dMo_init_63 : decode prog_10_method_1_code 63 = .ok (.bipush 24, 2) := by decide +kernel
theorem dMo_init_65 : decode prog_10_method_1_code 65 = .ok (.newarray .int, 2) := by decide +kernel
theorem dMo_init_67 : decode prog_10_method_1_code 67 = .ok (.putfield 32, 3) := by decide +kernel
theorem dMo_init_70 : decode prog_10_method_1_code 70 = .ok (.aload_n 0, 1) := by decide +kernel
theorem dMo_init_71 : decode prog_10_method_1_code 71 = .ok (.bipush 24, 2) := by decide +kernel
theorem dMo_init_73 : decode prog_10_method_1_code 73 = .ok (.newarray .int, 2) := by decide +kernel
theorem dMo_init_75 : decode prog_10_method_1_code 75 = .ok (.putfield 35, 3) := by decide +kernel
theorem dMo_init_78 : decode prog_10_method_1_code 78 = .ok (.aload_n 0, 1) := by decide +kernel
theorem dMo_init_79 : decode prog_10_method_1_code 79 = .ok (.bipush 24, 2) := by decide +kernel
theorem dMo_init_81 : decode prog_10_method_1_code 81 = .ok (.newarray .int, 2) := by decide +kernel
theorem dMo_init_83 : decode prog_10_method_1_code 83 = .ok (.putfield 38, 3) := by decide +kernel
theorem dMo_init_86 : decode prog_10_method_1_code 86 = .ok (.aload_n 0, 1) := by decide +kernel
theorem dMo_init_87 : decode prog_10_method_1_code 87 = .ok (.sipush 480, 3) := by decide +kernel
theorem dMo_init_90 : decode prog_10_method_1_code 90 = .ok (.newarray .long, 2) := by decide +kernel
theorem dMo_init_92 : decode prog_10_method_1_code 92 = .ok (.putfield 41, 3) := by decide +kernel
theorem dMo_init_95 : decode prog_10_method_1_code 95 = .ok (.aload_n 0, 1) := by decide +kernel
theorem dMo_init_96 : decode prog_10_method_1_code 96 = .ok (.bipush 50, 2) := by decide +kernel
theorem dMo_init_98 : decode prog_10_method_1_code 98 = .ok (.newarray .int, 2) := by decide +kernel
theorem dMo_init_100 : decode prog_10_method_1_code 100 = .ok (.putfield 44, 3) := by decide +kernel
theorem dMo_init_103 : decode prog_10_method_1_code 103 = .ok (.aload_n 0, 1) := by decide +kernel
theorem dMo_init_104 : decode prog_10_method_1_code 104 = .ok (.bipush 50, 2) := by decide +kernel
theorem dMo_init_106 : decode prog_10_method_1_code 106 = .ok (.newarray .int, 2) := by decide +kernel
theorem dMo_init_108 : decode prog_10_method_1_code 108 = .ok (.putfield 47, 3) := by decide +kernel
theorem dMo_init_111 : decode prog_10_method_1_code 111 = .ok (.aload_n 0, 1) := by decide +kernel
theorem dMo_init_112 : decode prog_10_method_1_code 112 = .ok (.iload_n 1, 1) := by decide +kernel
theorem dMo_init_113 : decode prog_10_method_1_code 113 = .ok (.iconst 2, 1) := by decide +kernel
theorem dMo_init_114 : decode prog_10_method_1_code 114 = .ok (.if_icmp .ge 7, 3) := by decide +kernel
theorem dMo_init_117 : decode prog_10_method_1_code 117 = .ok (.iconst 2, 1) := by decide +kernel
theorem dMo_init_118 : decode prog_10_method_1_code 118 = .ok (.goto 13, 3) := by decide +kernel
theorem dMo_init_121 : decode prog_10_method_1_code 121 = .ok (.iload_n 1, 1) := by decide +kernel
theorem dMo_init_122 : decode prog_10_method_1_code 122 = .ok (.iconst 4, 1) := by decide +kernel
theorem dMo_init_123 : decode prog_10_method_1_code 123 = .ok (.if_icmp .le 7, 3) := by decide +kernel
theorem dMo_init_126 : decode prog_10_method_1_code 126 = .ok (.iconst 4, 1) := by decide +kernel
theorem dMo_init_127 : decode prog_10_method_1_code 127 = .ok (.goto 4, 3) := by decide +kernel
theorem dMo_init_130 : decode prog_10_method_1_code 130 = .ok (.iload_n 1, 1) := by decide +kernel
theorem dMo_init_131 : decode prog_10_method_1_code 131 = .ok (.putfield 50, 3) := by decide +kernel
theorem dMo_init_134 : decode prog_10_method_1_code 134 = .ok (.return_, 1) := by decide +kernel
theorem dMo_key_0 : decode prog_10_method_2_code 0 = .ok (.iload_n 1, 1) := by decide +kernel
theorem dMo_key_1 : decode prog_10_method_2_code 1 = .ok (.bipush 32, 2) := by decide +kernel
theorem dMo_key_3 : decode prog_10_method_2_code 3 = .ok (.if_icmp .lt 18, 3) := by decide +kernel
theorem dMo_key_6 : decode prog_10_method_2_code 6 = .ok (.iload_n 1, 1) := by decide +kernel
theorem dMo_key_7 : decode prog_10_method_2_code 7 = .ok (.bipush 126, 2) := by decide +kernel
theorem dMo_key_9 : decode prog_10_method_2_code 9 = .ok (.if_icmp .gt 12, 3) := by decide +kernel
theorem dMo_key_12 : decode prog_10_method_2_code 12 = .ok (.aload_n 0, 1) := by decide +kernel
theorem dMo_key_13 : decode prog_10_method_2_code 13 = .ok (.getfield 54, 3) := by decide +kernel
theorem dMo_key_16 : decode prog_10_method_2_code 16 = .ok (.bipush 40, 2) := by decide +kernel
theorem dMo_key_18 : decode prog_10_method_2_code 18 = .ok (.if_icmp .ne 5, 3) := by decide +kernel
theorem dMo_key_21 : decode prog_10_method_2_code 21 = .ok (.iconst 0, 1) := by decide +kernel
theorem dMo_key_22 : decode prog_10_method_2_code 22 = .ok (.ireturn, 1) := by decide +kernel
theorem dMo_key_23 : decode prog_10_method_2_code 23 = .ok (.aload_n 0, 1) := by decide +kernel
theorem dMo_key_24 : decode prog_10_method_2_code 24 = .ok (.getfield 7, 3) := by decide +kernel
theorem dMo_key_27 : decode prog_10_method_2_code 27 = .ok (.aload_n 0, 1) := by decide +kernel
theorem dMo_key_28 : decode prog_10_method_2_code 28 = .ok (.getfield 54, 3) := by decide +kernel
theorem dMo_key_31 : decode prog_10_method_2_code 31 = .ok (.iload_n 1, 1) := by decide +kernel
theorem dMo_key_32 : decode prog_10_method_2_code 32 = .ok (.iastore, 1) := by decide +kernel
theorem dMo_key_33 : decode prog_10_method_2_code 33 = .ok (.aload_n 0, 1) := by decide +kernel
theorem dMo_key_34 : decode prog_10_method_2_code 34 = .ok (.dup, 1) := by decide +kernel
theorem dMo_key_35 : decode prog_10_method_2_code 35 = .ok (.getfield 54, 3) := by decide +kernel
theorem dMo_key_38 : decode prog_10_method_2_code 38 = .ok (.iconst 1, 1) := by decide +kernel
theorem dMo_key_39 : decode prog_10_method_2_code 39 = .ok (.iadd, 1) := by decide +kernel
theorem dMo_key_40 : decode prog_10_method_2_code 40 = .ok (.putfield 54, 3) := by decide +kernel
theorem dMo_key_43 : decode prog_10_method_2_code 43 = .ok (.iconst 1, 1) := by decide +kernel
theorem dMo_key_44 : decode prog_10_method_2_code 44 = .ok (.ireturn, 1) := by decide +kernel
theorem dMo_clear_0 : decode prog_10_method_3_code 0 = .ok (.aload_n 0, 1) := by decide +kernel
theorem dMo_clear_1 : decode prog_10_method_3_code 1 = .ok (.getfield 54, 3) := by decide +kernel
theorem dMo_clear_4 : decode prog_10_method_3_code 4 = .ok (.istore_n 1, 1) := by decide +kernel
theorem dMo_clear_5 : decode prog_10_method_3_code 5 = .ok (.aload_n 0, 1) := by decide +kernel
theorem dMo_clear_6 : decode prog_10_method_3_code 6 = .ok (.iconst 0, 1) := by decide +kernel
theorem dMo_clear_7 : decode prog_10_method_3_code 7 = .ok (.putfield 54, 3) := by decide +kernel
theorem dMo_clear_10 : decode prog_10_method_3_code 10 = .ok (.iload_n 1, 1) := by decide +kernel
theorem dMo_clear_11 : decode prog_10_method_3_code 11 = .ok (.ireturn, 1) := by decide +kernel
theorem dMo_words_0 : decode prog_10_method_6_code 0 = .ok (.aload_n 0, 1) := by decide +kernel
theorem dMo_words_1 : decode prog_10_method_6_code 1 = .ok (.invokevirtual 66, 3) := by decide +kernel
theorem dMo_words_4 : decode prog_10_method_6_code 4 = .ok (.aload_n 0, 1) := by decide +kernel
theorem dMo_words_5 : decode prog_10_method_6_code 5 = .ok (.getfield 57, 3) := by decide +kernel
theorem dMo_words_8 : decode prog_10_method_6_code 8 = .ok (.ireturn, 1) := by decide +kernel
theorem dMo_read_0 : decode prog_10_method_5_code 0 = .ok (.aload_n 0, 1) := by decide +kernel
theorem dMo_read_1 : decode prog_10_method_5_code 1 = .ok (.iconst 0, 1) := by decide +kernel
theorem dMo_read_2 : decode prog_10_method_5_code 2 = .ok (.putfield 57, 3) := by decide +kernel
theorem dMo_read_5 : decode prog_10_method_5_code 5 = .ok (.iconst 0, 1) := by decide +kernel
theorem dMo_read_6 : decode prog_10_method_5_code 6 = .ok (.istore_n 1, 1) := by decide +kernel
theorem dMo_read_7 : decode prog_10_method_5_code 7 = .ok (.iconst 0, 1) := by decide +kernel
theorem dMo_read_8 : decode prog_10_method_5_code 8 = .ok (.istore_n 2, 1) := by decide +kernel
theorem dMo_read_9 : decode prog_10_method_5_code 9 = .ok (.iload_n 2, 1) := by decide +kernel
theorem dMo_read_10 : decode prog_10_method_5_code 10 = .ok (.sipush 160, 3) := by decide +kernel
theorem dMo_read_13 : decode prog_10_method_5_code 13 = .ok (.if_icmp .ge 16, 3) := by decide +kernel
theorem dMo_read_16 : decode prog_10_method_5_code 16 = .ok (.aload_n 0, 1) := by decide +kernel
theorem dMo_read_17 : decode prog_10_method_5_code 17 = .ok (.getfield 17, 3) := by decide +kernel
theorem dMo_read_20 : decode prog_10_method_5_code 20 = .ok (.iload_n 2, 1) := by decide +kernel
theorem dMo_read_21 : decode prog_10_method_5_code 21 = .ok (.iconst 0, 1) := by decide +kernel
theorem dMo_read_22 : decode prog_10_method_5_code 22 = .ok (.iastore, 1) := by decide +kernel
theorem dMo_read_23 : decode prog_10_method_5_code 23 = .ok (.iinc 2 1, 3) := by decide +kernel
theorem dMo_read_26 : decode prog_10_method_5_code 26 = .ok (.goto (-17), 3) := by decide +kernel
theorem dMo_read_29 : decode prog_10_method_5_code 29 = .ok (.iconst 0, 1) := by decide +kernel
theorem dMo_read_30 : decode prog_10_method_5_code 30 = .ok (.istore_n 2, 1) := by decide +kernel
theorem dMo_read_31 : decode prog_10_method_5_code 31 = .ok (.iload_n 2, 1) := by decide +kernel
theorem dMo_read_32 : decode prog_10_method_5_code 32 = .ok (.aload_n 0, 1) := by decide +kernel
theorem dMo_read_33 : decode prog_10_method_5_code 33 = .ok (.getfield 54, 3) := by decide +kernel
theorem dMo_read_36 : decode prog_10_method_5_code 36 = .ok (.if_icmp .ge 107, 3) := by decide +kernel
theorem dMo_read_39 : decode prog_10_method_5_code 39 = .ok (.aload_n 0, 1) := by decide +kernel
theorem dMo_read_40 : decode prog_10_method_5_code 40 = .ok (.getfield 7, 3) := by decide +kernel
theorem dMo_read_43 : decode prog_10_method_5_code 43 = .ok (.iload_n 2, 1) := by decide +kernel
theorem dMo_read_44 : decode prog_10_method_5_code 44 = .ok (.iaload, 1) := by decide +kernel
theorem dMo_read_45 : decode prog_10_method_5_code 45 = .ok (.invokestatic 60, 3) := by decide +kernel
theorem dMo_read_48 : decode prog_10_method_5_code 48 = .ok (.istore_n 3, 1) := by decide +kernel
theorem dMo_read_49 : decode prog_10_method_5_code 49 = .ok (.iload_n 3, 1) := by decide +kernel
theorem dMo_read_50 : decode prog_10_method_5_code 50 = .ok (.ifCond .ne 8, 3) := by decide +kernel
theorem dMo_read_53 : decode prog_10_method_5_code 53 = .ok (.iconst 0, 1) := by decide +kernel
theorem dMo_read_54 : decode prog_10_method_5_code 54 = .ok (.istore_n 1, 1) := by decide +kernel
theorem dMo_read_55 : decode prog_10_method_5_code 55 = .ok (.goto 82, 3) := by decide +kernel
theorem dMo_read_58 : decode prog_10_method_5_code 58 = .ok (.iload_n 1, 1) := by decide +kernel
theorem dMo_read_59 : decode prog_10_method_5_code 59 = .ok (.ifCond .ne 23, 3) := by decide +kernel
theorem dMo_read_62 : decode prog_10_method_5_code 62 = .ok (.aload_n 0, 1) := by decide +kernel
theorem dMo_read_63 : decode prog_10_method_5_code 63 = .ok (.getfield 13, 3) := by decide +kernel
theorem dMo_read_66 : decode prog_10_method_5_code 66 = .ok (.aload_n 0, 1) := by decide +kernel
theorem dMo_read_67 : decode prog_10_method_5_code 67 = .ok (.getfield 57, 3) := by decide +kernel
theorem dMo_read_70 : decode prog_10_method_5_code 70 = .ok (.lconst 0, 1) := by decide +kernel
theorem dMo_read_71 : decode prog_10_method_5_code 71 = .ok (.lastore, 1) := by decide +kernel
theorem dMo_read_72 : decode prog_10_method_5_code 72 = .ok (.aload_n 0, 1) := by decide +kernel
theorem dMo_read_73 : decode prog_10_method_5_code 73 = .ok (.dup, 1) := by decide +kernel
theorem dMo_read_74 : decode prog_10_method_5_code 74 = .ok (.getfield 57, 3) := by decide +kernel
theorem dMo_read_77 : decode prog_10_method_5_code 77 = .ok (.iconst 1, 1) := by decide +kernel
theorem dMo_read_78 : decode prog_10_method_5_code 78 = .ok (.iadd, 1) := by decide +kernel
theorem dMo_read_79 : decode prog_10_method_5_code 79 = .ok (.putfield 57, 3) := by decide +kernel
theorem dMo_read_82 : decode prog_10_method_5_code 82 = .ok (.iload_n 1, 1) := by decide +kernel
theorem dMo_read_83 : decode prog_10_method_5_code 83 = .ok (.bipush 8, 2) := by decide +kernel
theorem dMo_read_85 : decode prog_10_method_5_code 85 = .ok (.if_icmp .ge 49, 3) := by decide +kernel
theorem dMo_read_88 : decode prog_10_method_5_code 88 = .ok (.aload_n 0, 1) := by decide +kernel
theorem dMo_read_89 : decode prog_10_method_5_code 89 = .ok (.getfield 17, 3) := by decide +kernel
theorem dMo_read_92 : decode prog_10_method_5_code 92 = .ok (.bipush 8, 2) := by decide +kernel
theorem dMo_read_94 : decode prog_10_method_5_code 94 = .ok (.aload_n 0, 1) := by decide +kernel
theorem dMo_read_95 : decode prog_10_method_5_code 95 = .ok (.getfield 57, 3) := by decide +kernel
theorem dMo_read_98 : decode prog_10_method_5_code 98 = .ok (.iconst 1, 1) := by decide +kernel
theorem dMo_read_99 : decode prog_10_method_5_code 99 = .ok (.isub, 1) := by decide +kernel
theorem dMo_read_100 : decode prog_10_method_5_code 100 = .ok (.imul, 1) := by decide +kernel
theorem dMo_read_101 : decode prog_10_method_5_code 101 = .ok (.iload_n 1, 1) := by decide +kernel
theorem dMo_read_102 : decode prog_10_method_5_code 102 = .ok (.iadd, 1) := by decide +kernel
theorem dMo_read_103 : decode prog_10_method_5_code 103 = .ok (.iload_n 3, 1) := by decide +kernel
theorem dMo_read_104 : decode prog_10_method_5_code 104 = .ok (.iastore, 1) := by decide +kernel
theorem dMo_read_105 : decode prog_10_method_5_code 105 = .ok (.aload_n 0, 1) := by decide +kernel
theorem dMo_read_106 : decode prog_10_method_5_code 106 = .ok (.getfield 13, 3) := by decide +kernel
theorem dMo_read_109 : decode prog_10_method_5_code 109 = .ok (.aload_n 0, 1) := by decide +kernel
theorem dMo_read_110 : decode prog_10_method_5_code 110 = .ok (.getfield 57, 3) := by decide +kernel
theorem dMo_read_113 : decode prog_10_method_5_code 113 = .ok (.iconst 1, 1) := by decide +kernel
theorem dMo_read_114 : decode prog_10_method_5_code 114 = .ok (.isub, 1) := by decide +kernel
theorem dMo_read_115 : decode prog_10_method_5_code 115 = .ok (.ldc2_w 64, 3) := by decide +kernel
theorem dMo_read_118 : decode prog_10_method_5_code 118 = .ok (.aload_n 0, 1) := by decide +kernel
theorem dMo_read_119 : decode prog_10_method_5_code 119 = .ok (.getfield 13, 3) := by decide +kernel
theorem dMo_read_122 : decode prog_10_method_5_code 122 = .ok (.aload_n 0, 1) := by decide +kernel
theorem dMo_read_123 : decode prog_10_method_5_code 123 = .ok (.getfield 57, 3) := by decide +kernel
theorem dMo_read_126 : decode prog_10_method_5_code 126 = .ok (.iconst 1, 1) := by decide +kernel
theorem dMo_read_127 : decode prog_10_method_5_code 127 = .ok (.isub, 1) := by decide +kernel
theorem dMo_read_128 : decode prog_10_method_5_code 128 = .ok (.laload, 1) := by decide +kernel
theorem dMo_read_129 : decode prog_10_method_5_code 129 = .ok (.lmul, 1) := by decide +kernel
theorem dMo_read_130 : decode prog_10_method_5_code 130 = .ok (.iload_n 3, 1) := by decide +kernel
theorem dMo_read_131 : decode prog_10_method_5_code 131 = .ok (.i2l, 1) := by decide +kernel
theorem dMo_read_132 : decode prog_10_method_5_code 132 = .ok (.ladd, 1) := by decide +kernel
theorem dMo_read_133 : decode prog_10_method_5_code 133 = .ok (.lastore, 1) := by decide +kernel
theorem dMo_read_134 : decode prog_10_method_5_code 134 = .ok (.iinc 1 1, 3) := by decide +kernel
theorem dMo_read_137 : decode prog_10_method_5_code 137 = .ok (.iinc 2 1, 3) := by decide +kernel
theorem dMo_read_140 : decode prog_10_method_5_code 140 = .ok (.goto (-109), 3) := by decide +kernel
theorem dMo_read_143 : decode prog_10_method_5_code 143 = .ok (.return_, 1) := by decide +kernel
theorem dMo_plain_0 : decode prog_10_method_4_code 0 = .ok (.iload_n 0, 1) := by decide +kernel
theorem dMo_plain_1 : decode prog_10_method_4_code 1 = .ok (.bipush 65, 2) := by decide +kernel
theorem dMo_plain_3 : decode prog_10_method_4_code 3 = .ok (.if_icmp .lt 16, 3) := by decide +kernel
theorem dMo_plain_6 : decode prog_10_method_4_code 6 = .ok (.iload_n 0, 1) := by decide +kernel
theorem dMo_plain_7 : decode prog_10_method_4_code 7 = .ok (.bipush 90, 2) := by decide +kernel
theorem dMo_plain_9 : decode prog_10_method_4_code 9 = .ok (.if_icmp .gt 10, 3) := by decide +kernel
theorem dMo_plain_12 : decode prog_10_method_4_code 12 = .ok (.iload_n 0, 1) := by decide +kernel
theorem dMo_plain_13 : decode prog_10_method_4_code 13 = .ok (.bipush 32, 2) := by decide +kernel
theorem dMo_plain_15 : decode prog_10_method_4_code 15 = .ok (.iadd, 1) := by decide +kernel
theorem dMo_plain_16 : decode prog_10_method_4_code 16 = .ok (.goto 32, 3) := by decide +kernel
theorem dMo_plain_19 : decode prog_10_method_4_code 19 = .ok (.iload_n 0, 1) := by decide +kernel
theorem dMo_plain_20 : decode prog_10_method_4_code 20 = .ok (.bipush 97, 2) := by decide +kernel
theorem dMo_plain_22 : decode prog_10_method_4_code 22 = .ok (.if_icmp .lt 9, 3) := by decide +kernel
theorem dMo_plain_25 : decode prog_10_method_4_code 25 = .ok (.iload_n 0, 1) := by decide +kernel
theorem dMo_plain_26 : decode prog_10_method_4_code 26 = .ok (.bipush 122, 2) := by decide +kernel
theorem dMo_plain_28 : decode prog_10_method_4_code 28 = .ok (.if_icmp .le 15, 3) := by decide +kernel
theorem dMo_plain_31 : decode prog_10_method_4_code 31 = .ok (.iload_n 0, 1) := by decide +kernel
theorem dMo_plain_32 : decode prog_10_method_4_code 32 = .ok (.bipush 48, 2) := by decide +kernel
theorem dMo_plain_34 : decode prog_10_method_4_code 34 = .ok (.if_icmp .lt 13, 3) := by decide +kernel
theorem dMo_plain_37 : decode prog_10_method_4_code 37 = .ok (.iload_n 0, 1) := by decide +kernel
theorem dMo_plain_38 : decode prog_10_method_4_code 38 = .ok (.bipush 57, 2) := by decide +kernel
theorem dMo_plain_40 : decode prog_10_method_4_code 40 = .ok (.if_icmp .gt 7, 3) := by decide +kernel
theorem dMo_plain_43 : decode prog_10_method_4_code 43 = .ok (.iload_n 0, 1) := by decide +kernel
theorem dMo_plain_44 : decode prog_10_method_4_code 44 = .ok (.goto 4, 3) := by decide +kernel
theorem dMo_plain_47 : decode prog_10_method_4_code 47 = .ok (.iconst 0, 1) := by decide +kernel
theorem dMo_plain_48 : decode prog_10_method_4_code 48 = .ok (.ireturn, 1) := by decide +kernel
theorem dMo_letter_0 : decode prog_10_method_7_code 0 = .ok (.aload_n 0, 1) := by decide +kernel
theorem dMo_letter_1 : decode prog_10_method_7_code 1 = .ok (.invokevirtual 66, 3) := by decide +kernel
theorem dMo_letter_4 : decode prog_10_method_7_code 4 = .ok (.iload_n 1, 1) := by decide +kernel
theorem dMo_letter_5 : decode prog_10_method_7_code 5 = .ok (.ifCond .lt 35, 3) := by decide +kernel
theorem dMo_letter_8 : decode prog_10_method_7_code 8 = .ok (.iload_n 1, 1) := by decide +kernel
theorem dMo_letter_9 : decode prog_10_method_7_code 9 = .ok (.aload_n 0, 1) := by decide +kernel
theorem dMo_letter_10 : decode prog_10_method_7_code 10 = .ok (.getfield 57, 3) := by decide +kernel
theorem dMo_letter_13 : decode prog_10_method_7_code 13 = .ok (.if_icmp .ge 27, 3) := by decide +kernel
theorem dMo_letter_16 : decode prog_10_method_7_code 16 = .ok (.iload_n 2, 1) := by decide +kernel
theorem dMo_letter_17 : decode prog_10_method_7_code 17 = .ok (.ifCond .lt 23, 3) := by decide +kernel
theorem dMo_letter_20 : decode prog_10_method_7_code 20 = .ok (.iload_n 2, 1) := by decide +kernel
theorem dMo_letter_21 : decode prog_10_method_7_code 21 = .ok (.bipush 7, 2) := by decide +kernel
theorem dMo_letter_23 : decode prog_10_method_7_code 23 = .ok (.if_icmp .gt 17, 3) := by decide +kernel
theorem dMo_letter_26 : decode prog_10_method_7_code 26 = .ok (.aload_n 0, 1) := by decide +kernel
theorem dMo_letter_27 : decode prog_10_method_7_code 27 = .ok (.getfield 17, 3) := by decide +kernel
theorem dMo_letter_30 : decode prog_10_method_7_code 30 = .ok (.bipush 8, 2) := by decide +kernel
theorem dMo_letter_32 : decode prog_10_method_7_code 32 = .ok (.iload_n 1, 1) := by decide +kernel
theorem dMo_letter_33 : decode prog_10_method_7_code 33 = .ok (.imul, 1) := by decide +kernel
theorem dMo_letter_34 : decode prog_10_method_7_code 34 = .ok (.iload_n 2, 1) := by decide +kernel
theorem dMo_letter_35 : decode prog_10_method_7_code 35 = .ok (.iadd, 1) := by decide +kernel
theorem dMo_letter_36 : decode prog_10_method_7_code 36 = .ok (.iaload, 1) := by decide +kernel
theorem dMo_letter_37 : decode prog_10_method_7_code 37 = .ok (.ifCond .ne 5, 3) := by decide +kernel
theorem dMo_letter_40 : decode prog_10_method_7_code 40 = .ok (.iconst (-1), 1) := by decide +kernel
theorem dMo_letter_41 : decode prog_10_method_7_code 41 = .ok (.ireturn, 1) := by decide +kernel
theorem dMo_letter_42 : decode prog_10_method_7_code 42 = .ok (.aload_n 0, 1) := by decide +kernel
theorem dMo_letter_43 : decode prog_10_method_7_code 43 = .ok (.getfield 17, 3) := by decide +kernel
theorem dMo_letter_46 : decode prog_10_method_7_code 46 = .ok (.bipush 8, 2) := by decide +kernel
theorem dMo_letter_48 : decode prog_10_method_7_code 48 = .ok (.iload_n 1, 1) := by decide +kernel
theorem dMo_letter_49 : decode prog_10_method_7_code 49 = .ok (.imul, 1) := by decide +kernel
theorem dMo_letter_50 : decode prog_10_method_7_code 50 = .ok (.iload_n 2, 1) := by decide +kernel
theorem dMo_letter_51 : decode prog_10_method_7_code 51 = .ok (.iadd, 1) := by decide +kernel
theorem dMo_letter_52 : decode prog_10_method_7_code 52 = .ok (.iaload, 1) := by decide +kernel
theorem dMo_letter_53 : decode prog_10_method_7_code 53 = .ok (.ireturn, 1) := by decide +kernel
theorem dMo_pending_0 : decode prog_10_method_10_code 0 = .ok (.iconst 0, 1) := by decide +kernel
theorem dMo_pending_1 : decode prog_10_method_10_code 1 = .ok (.istore_n 1, 1) := by decide +kernel
theorem dMo_pending_2 : decode prog_10_method_10_code 2 = .ok (.iconst 0, 1) := by decide +kernel
theorem dMo_pending_3 : decode prog_10_method_10_code 3 = .ok (.istore_n 2, 1) := by decide +kernel
theorem dMo_pending_4 : decode prog_10_method_10_code 4 = .ok (.iload_n 2, 1) := by decide +kernel
theorem dMo_pending_5 : decode prog_10_method_10_code 5 = .ok (.aload_n 0, 1) := by decide +kernel
theorem dMo_pending_6 : decode prog_10_method_10_code 6 = .ok (.getfield 69, 3) := by decide +kernel
theorem dMo_pending_9 : decode prog_10_method_10_code 9 = .ok (.if_icmp .ge 18, 3) := by decide +kernel
theorem dMo_pending_12 : decode prog_10_method_10_code 12 = .ok (.iload_n 1, 1) := by decide +kernel
theorem dMo_pending_13 : decode prog_10_method_10_code 13 = .ok (.aload_n 0, 1) := by decide +kernel
theorem dMo_pending_14 : decode prog_10_method_10_code 14 = .ok (.getfield 38, 3) := by decide +kernel
theorem dMo_pending_17 : decode prog_10_method_10_code 17 = .ok (.iload_n 2, 1) := by decide +kernel
theorem dMo_pending_18 : decode prog_10_method_10_code 18 = .ok (.iaload, 1) := by decide +kernel
theorem dMo_pending_19 : decode prog_10_method_10_code 19 = .ok (.iadd, 1) := by decide +kernel
theorem dMo_pending_20 : decode prog_10_method_10_code 20 = .ok (.istore_n 1, 1) := by decide +kernel
theorem dMo_pending_21 : decode prog_10_method_10_code 21 = .ok (.iinc 2 1, 3) := by decide +kernel
theorem dMo_pending_24 : decode prog_10_method_10_code 24 = .ok (.goto (-20), 3) := by decide +kernel
theorem dMo_pending_27 : decode prog_10_method_10_code 27 = .ok (.iload_n 1, 1) := by decide +kernel
theorem dMo_pending_28 : decode prog_10_method_10_code 28 = .ok (.ireturn, 1) := by decide +kernel
theorem dMo_train_0 : decode prog_10_method_13_code 0 = .ok (.iload_n 1, 1) := by decide +kernel
theorem dMo_train_1 : decode prog_10_method_13_code 1 = .ok (.invokestatic 72, 3) := by decide +kernel
theorem dMo_train_4 : decode prog_10_method_13_code 4 = .ok (.ifCond .eq 15, 3) := by decide +kernel
theorem dMo_train_7 : decode prog_10_method_13_code 7 = .ok (.iload_n 2, 1) := by decide +kernel
theorem dMo_train_8 : decode prog_10_method_13_code 8 = .ok (.ifCond .lt 11, 3) := by decide +kernel
theorem dMo_train_11 : decode prog_10_method_13_code 11 = .ok (.iload_n 2, 1) := by decide +kernel
theorem dMo_train_12 : decode prog_10_method_13_code 12 = .ok (.aload_n 0, 1) := by decide +kernel
theorem dMo_train_13 : decode prog_10_method_13_code 13 = .ok (.getfield 50, 3) := by decide +kernel
theorem dMo_train_16 : decode prog_10_method_13_code 16 = .ok (.if_icmp .lt 5, 3) := by decide +kernel
theorem dMo_train_19 : decode prog_10_method_13_code 19 = .ok (.iconst (-1), 1) := by decide +kernel
theorem dMo_train_20 : decode prog_10_method_13_code 20 = .ok (.ireturn, 1) := by decide +kernel
theorem dMo_train_21 : decode prog_10_method_13_code 21 = .ok (.aload_n 0, 1) := by decide +kernel
theorem dMo_train_22 : decode prog_10_method_13_code 22 = .ok (.getfield 20, 3) := by decide +kernel
theorem dMo_train_25 : decode prog_10_method_13_code 25 = .ok (.iload_n 1, 1) := by decide +kernel
theorem dMo_train_26 : decode prog_10_method_13_code 26 = .ok (.iaload, 1) := by decide +kernel
theorem dMo_train_27 : decode prog_10_method_13_code 27 = .ok (.ifCond .le 6, 3) := by decide +kernel
theorem dMo_train_30 : decode prog_10_method_13_code 30 = .ok (.bipush (-2), 2) := by decide +kernel
theorem dMo_train_32 : decode prog_10_method_13_code 32 = .ok (.ireturn, 1) := by decide +kernel
theorem dMo_train_33 : decode prog_10_method_13_code 33 = .ok (.aload_n 0, 1) := by decide +kernel
theorem dMo_train_34 : decode prog_10_method_13_code 34 = .ok (.invokevirtual 76, 3) := by decide +kernel
theorem dMo_train_37 : decode prog_10_method_13_code 37 = .ok (.bipush 10, 2) := by decide +kernel
theorem dMo_train_39 : decode prog_10_method_13_code 39 = .ok (.if_icmp .ne 6, 3) := by decide +kernel
theorem dMo_train_42 : decode prog_10_method_13_code 42 = .ok (.bipush (-4), 2) := by decide +kernel
theorem dMo_train_44 : decode prog_10_method_13_code 44 = .ok (.ireturn, 1) := by decide +kernel
theorem dMo_train_45 : decode prog_10_method_13_code 45 = .ok (.aload_n 0, 1) := by decide +kernel
theorem dMo_train_46 : decode prog_10_method_13_code 46 = .ok (.invokevirtual 66, 3) := by decide +kernel
theorem dMo_train_49 : decode prog_10_method_13_code 49 = .ok (.iconst 1, 1) := by decide +kernel
theorem dMo_train_50 : decode prog_10_method_13_code 50 = .ok (.aload_n 0, 1) := by decide +kernel
theorem dMo_train_51 : decode prog_10_method_13_code 51 = .ok (.getfield 57, 3) := by decide +kernel
theorem dMo_train_54 : decode prog_10_method_13_code 54 = .ok (.iconst 3, 1) := by decide +kernel
theorem dMo_train_55 : decode prog_10_method_13_code 55 = .ok (.iadd, 1) := by decide +kernel
theorem dMo_train_56 : decode prog_10_method_13_code 56 = .ok (.iconst 4, 1) := by decide +kernel
theorem dMo_train_57 : decode prog_10_method_13_code 57 = .ok (.idiv, 1) := by decide +kernel
theorem dMo_train_58 : decode prog_10_method_13_code 58 = .ok (.iadd, 1) := by decide +kernel
theorem dMo_train_59 : decode prog_10_method_13_code 59 = .ok (.istore_n 3, 1) := by decide +kernel
theorem dMo_train_60 : decode prog_10_method_13_code 60 = .ok (.aload_n 0, 1) := by decide +kernel
theorem dMo_train_61 : decode prog_10_method_13_code 61 = .ok (.invokevirtual 80, 3) := by decide +kernel
theorem dMo_train_64 : decode prog_10_method_13_code 64 = .ok (.iload_n 3, 1) := by decide +kernel
theorem dMo_train_65 : decode prog_10_method_13_code 65 = .ok (.iadd, 1) := by decide +kernel
theorem dMo_train_66 : decode prog_10_method_13_code 66 = .ok (.bipush 24, 2) := by decide +kernel
theorem dMo_train_68 : decode prog_10_method_13_code 68 = .ok (.if_icmp .le 6, 3) := by decide +kernel
theorem dMo_train_71 : decode prog_10_method_13_code 71 = .ok (.bipush (-5), 2) := by decide +kernel
theorem dMo_train_73 : decode prog_10_method_13_code 73 = .ok (.ireturn, 1) := by decide +kernel
theorem dMo_train_74 : decode prog_10_method_13_code 74 = .ok (.aload_n 0, 1) := by decide +kernel
theorem dMo_train_75 : decode prog_10_method_13_code 75 = .ok (.iload_n 1, 1) := by decide +kernel
theorem dMo_train_76 : decode prog_10_method_13_code 76 = .ok (.iload_n 2, 1) := by decide +kernel
theorem dMo_train_77 : decode prog_10_method_13_code 77 = .ok (.iconst 1, 1) := by decide +kernel
theorem dMo_train_78 : decode prog_10_method_13_code 78 = .ok (.iadd, 1) := by decide +kernel
theorem dMo_train_79 : decode prog_10_method_13_code 79 = .ok (.aload_n 0, 1) := by decide +kernel
theorem dMo_train_80 : decode prog_10_method_13_code 80 = .ok (.getfield 57, 3) := by decide +kernel
theorem dMo_train_83 : decode prog_10_method_13_code 83 = .ok (.iload_n 3, 1) := by decide +kernel
theorem dMo_train_84 : decode prog_10_method_13_code 84 = .ok (.invokevirtual 83, 3) := by decide +kernel
theorem dMo_train_87 : decode prog_10_method_13_code 87 = .ok (.aload_n 0, 1) := by decide +kernel
theorem dMo_train_88 : decode prog_10_method_13_code 88 = .ok (.aload_n 0, 1) := by decide +kernel
theorem dMo_train_89 : decode prog_10_method_13_code 89 = .ok (.getfield 69, 3) := by decide +kernel
theorem dMo_train_92 : decode prog_10_method_13_code 92 = .ok (.iconst 1, 1) := by decide +kernel
theorem dMo_train_93 : decode prog_10_method_13_code 93 = .ok (.isub, 1) := by decide +kernel
theorem dMo_train_94 : decode prog_10_method_13_code 94 = .ok (.invokevirtual 87, 3) := by decide +kernel
theorem dMo_train_97 : decode prog_10_method_13_code 97 = .ok (.iload_n 3, 1) := by decide +kernel
theorem dMo_train_98 : decode prog_10_method_13_code 98 = .ok (.ireturn, 1) := by decide +kernel
theorem dMo_isId_0 : decode prog_10_method_8_code 0 = .ok (.iload_n 0, 1) := by decide +kernel
theorem dMo_isId_1 : decode prog_10_method_8_code 1 = .ok (.ifCond .lt 13, 3) := by decide +kernel
theorem dMo_isId_4 : decode prog_10_method_8_code 4 = .ok (.iload_n 0, 1) := by decide +kernel
theorem dMo_isId_5 : decode prog_10_method_8_code 5 = .ok (.bipush 31, 2) := by decide +kernel
theorem dMo_isId_7 : decode prog_10_method_8_code 7 = .ok (.if_icmp .gt 7, 3) := by decide +kernel
theorem dMo_isId_10 : decode prog_10_method_8_code 10 = .ok (.iconst 1, 1) := by decide +kernel
theorem dMo_isId_11 : decode prog_10_method_8_code 11 = .ok (.goto 4, 3) := by decide +kernel
theorem dMo_isId_14 : decode prog_10_method_8_code 14 = .ok (.iconst 0, 1) := by decide +kernel
theorem dMo_isId_15 : decode prog_10_method_8_code 15 = .ok (.ireturn, 1) := by decide +kernel
theorem dMo_inForce_0 : decode prog_10_method_9_code 0 = .ok (.iconst 0, 1) := by decide +kernel
theorem dMo_inForce_1 : decode prog_10_method_9_code 1 = .ok (.istore_n 1, 1) := by decide +kernel
theorem dMo_inForce_2 : decode prog_10_method_9_code 2 = .ok (.iconst 0, 1) := by decide +kernel
theorem dMo_inForce_3 : decode prog_10_method_9_code 3 = .ok (.istore_n 2, 1) := by decide +kernel
theorem dMo_inForce_4 : decode prog_10_method_9_code 4 = .ok (.iload_n 2, 1) := by decide +kernel
theorem dMo_inForce_5 : decode prog_10_method_9_code 5 = .ok (.bipush 32, 2) := by decide +kernel
theorem dMo_inForce_7 : decode prog_10_method_9_code 7 = .ok (.if_icmp .ge 26, 3) := by decide +kernel
theorem dMo_inForce_10 : decode prog_10_method_9_code 10 = .ok (.aload_n 0, 1) := by decide +kernel
theorem dMo_inForce_11 : decode prog_10_method_9_code 11 = .ok (.getfield 20, 3) := by decide +kernel
theorem dMo_inForce_14 : decode prog_10_method_9_code 14 = .ok (.iload_n 2, 1) := by decide +kernel
theorem dMo_inForce_15 : decode prog_10_method_9_code 15 = .ok (.iaload, 1) := by decide +kernel
theorem dMo_inForce_16 : decode prog_10_method_9_code 16 = .ok (.ifCond .le 9, 3) := by decide +kernel
theorem dMo_inForce_19 : decode prog_10_method_9_code 19 = .ok (.iload_n 1, 1) := by decide +kernel
theorem dMo_inForce_20 : decode prog_10_method_9_code 20 = .ok (.iconst 1, 1) := by decide +kernel
theorem dMo_inForce_21 : decode prog_10_method_9_code 21 = .ok (.iadd, 1) := by decide +kernel
theorem dMo_inForce_22 : decode prog_10_method_9_code 22 = .ok (.goto 4, 3) := by decide +kernel
theorem dMo_inForce_25 : decode prog_10_method_9_code 25 = .ok (.iload_n 1, 1) := by decide +kernel
theorem dMo_inForce_26 : decode prog_10_method_9_code 26 = .ok (.istore_n 1, 1) := by decide +kernel
theorem dMo_inForce_27 : decode prog_10_method_9_code 27 = .ok (.iinc 2 1, 3) := by decide +kernel
theorem dMo_inForce_30 : decode prog_10_method_9_code 30 = .ok (.goto (-26), 3) := by decide +kernel
theorem dMo_inForce_33 : decode prog_10_method_9_code 33 = .ok (.iload_n 1, 1) := by decide +kernel
theorem dMo_inForce_34 : decode prog_10_method_9_code 34 = .ok (.ireturn, 1) := by decide +kernel
theorem dMo_log_0 : decode prog_10_method_11_code 0 = .ok (.aload_n 0, 1) := by decide +kernel
theorem dMo_log_1 : decode prog_10_method_11_code 1 = .ok (.getfield 29, 3) := by decide +kernel
theorem dMo_log_4 : decode prog_10_method_11_code 4 = .ok (.aload_n 0, 1) := by decide +kernel
theorem dMo_log_5 : decode prog_10_method_11_code 5 = .ok (.getfield 69, 3) := by decide +kernel
theorem dMo_log_8 : decode prog_10_method_11_code 8 = .ok (.iload_n 1, 1) := by decide +kernel
theorem dMo_log_9 : decode prog_10_method_11_code 9 = .ok (.iastore, 1) := by decide +kernel
theorem dMo_log_10 : decode prog_10_method_11_code 10 = .ok (.aload_n 0, 1) := by decide +kernel
theorem dMo_log_11 : decode prog_10_method_11_code 11 = .ok (.getfield 32, 3) := by decide +kernel
theorem dMo_log_14 : decode prog_10_method_11_code 14 = .ok (.aload_n 0, 1) := by decide +kernel
theorem dMo_log_15 : decode prog_10_method_11_code 15 = .ok (.getfield 69, 3) := by decide +kernel
theorem dMo_log_18 : decode prog_10_method_11_code 18 = .ok (.iload_n 2, 1) := by decide +kernel
theorem dMo_log_19 : decode prog_10_method_11_code 19 = .ok (.iastore, 1) := by decide +kernel
theorem dMo_log_20 : decode prog_10_method_11_code 20 = .ok (.aload_n 0, 1) := by decide +kernel
theorem dMo_log_21 : decode prog_10_method_11_code 21 = .ok (.getfield 35, 3) := by decide +kernel
theorem dMo_log_24 : decode prog_10_method_11_code 24 = .ok (.aload_n 0, 1) := by decide +kernel
theorem dMo_log_25 : decode prog_10_method_11_code 25 = .ok (.getfield 69, 3) := by decide +kernel
theorem dMo_log_28 : decode prog_10_method_11_code 28 = .ok (.iload_n 3, 1) := by decide +kernel
theorem dMo_log_29 : decode prog_10_method_11_code 29 = .ok (.iastore, 1) := by decide +kernel
theorem dMo_log_30 : decode prog_10_method_11_code 30 = .ok (.aload_n 0, 1) := by decide +kernel
theorem dMo_log_31 : decode prog_10_method_11_code 31 = .ok (.getfield 38, 3) := by decide +kernel
theorem dMo_log_34 : decode prog_10_method_11_code 34 = .ok (.aload_n 0, 1) := by decide +kernel
theorem dMo_log_35 : decode prog_10_method_11_code 35 = .ok (.getfield 69, 3) := by decide +kernel
theorem dMo_log_38 : decode prog_10_method_11_code 38 = .ok (.iload 4, 2) := by decide +kernel
theorem dMo_log_40 : decode prog_10_method_11_code 40 = .ok (.iastore, 1) := by decide +kernel
theorem dMo_log_41 : decode prog_10_method_11_code 41 = .ok (.iconst 0, 1) := by decide +kernel
theorem dMo_log_42 : decode prog_10_method_11_code 42 = .ok (.istore 5, 2) := by decide +kernel
theorem dMo_log_44 : decode prog_10_method_11_code 44 = .ok (.iload 5, 2) := by decide +kernel
theorem dMo_log_46 : decode prog_10_method_11_code 46 = .ok (.iload_n 3, 1) := by decide +kernel
theorem dMo_log_47 : decode prog_10_method_11_code 47 = .ok (.if_icmp .ge 31, 3) := by decide +kernel
theorem dMo_log_50 : decode prog_10_method_11_code 50 = .ok (.aload_n 0, 1) := by decide +kernel
theorem dMo_log_51 : decode prog_10_method_11_code 51 = .ok (.getfield 41, 3) := by decide +kernel
theorem dMo_log_54 : decode prog_10_method_11_code 54 = .ok (.bipush 20, 2) := by decide +kernel
theorem dMo_log_56 : decode prog_10_method_11_code 56 = .ok (.aload_n 0, 1) := by decide +kernel
theorem dMo_log_57 : decode prog_10_method_11_code 57 = .ok (.getfield 69, 3) := by decide +kernel
theorem dMo_log_60 : decode prog_10_method_11_code 60 = .ok (.imul, 1) := by decide +kernel
theorem dMo_log_61 : decode prog_10_method_11_code 61 = .ok (.iload 5, 2) := by decide +kernel
theorem dMo_log_63 : decode prog_10_method_11_code 63 = .ok (.iadd, 1) := by decide +kernel
theorem dMo_log_64 : decode prog_10_method_11_code 64 = .ok (.aload_n 0, 1) := by decide +kernel
theorem dMo_log_65 : decode prog_10_method_11_code 65 = .ok (.getfield 13, 3) := by decide +kernel
theorem dMo_log_68 : decode prog_10_method_11_code 68 = .ok (.iload 5, 2) := by decide +kernel
theorem dMo_log_70 : decode prog_10_method_11_code 70 = .ok (.laload, 1) := by decide +kernel
theorem dMo_log_71 : decode prog_10_method_11_code 71 = .ok (.lastore, 1) := by decide +kernel
theorem dMo_log_72 : decode prog_10_method_11_code 72 = .ok (.iinc 5 1, 3) := by decide +kernel
theorem dMo_log_75 : decode prog_10_method_11_code 75 = .ok (.goto (-31), 3) := by decide +kernel
theorem dMo_log_78 : decode prog_10_method_11_code 78 = .ok (.aload_n 0, 1) := by decide +kernel
theorem dMo_log_79 : decode prog_10_method_11_code 79 = .ok (.dup, 1) := by decide +kernel
theorem dMo_log_80 : decode prog_10_method_11_code 80 = .ok (.getfield 69, 3) := by decide +kernel
theorem dMo_log_83 : decode prog_10_method_11_code 83 = .ok (.iconst 1, 1) := by decide +kernel
theorem dMo_log_84 : decode prog_10_method_11_code 84 = .ok (.iadd, 1) := by decide +kernel
theorem dMo_log_85 : decode prog_10_method_11_code 85 = .ok (.putfield 69, 3) := by decide +kernel
theorem dMo_log_88 : decode prog_10_method_11_code 88 = .ok (.return_, 1) := by decide +kernel
theorem dMo_apply_0 : decode prog_10_method_12_code 0 = .ok (.aload_n 0, 1) := by decide +kernel
theorem dMo_apply_1 : decode prog_10_method_12_code 1 = .ok (.getfield 29, 3) := by decide +kernel
theorem dMo_apply_4 : decode prog_10_method_12_code 4 = .ok (.iload_n 1, 1) := by decide +kernel
theorem dMo_apply_5 : decode prog_10_method_12_code 5 = .ok (.iaload, 1) := by decide +kernel
theorem dMo_apply_6 : decode prog_10_method_12_code 6 = .ok (.istore_n 2, 1) := by decide +kernel
theorem dMo_apply_7 : decode prog_10_method_12_code 7 = .ok (.aload_n 0, 1) := by decide +kernel
theorem dMo_apply_8 : decode prog_10_method_12_code 8 = .ok (.getfield 20, 3) := by decide +kernel
theorem dMo_apply_11 : decode prog_10_method_12_code 11 = .ok (.iload_n 2, 1) := by decide +kernel
theorem dMo_apply_12 : decode prog_10_method_12_code 12 = .ok (.aload_n 0, 1) := by decide +kernel
theorem dMo_apply_13 : decode prog_10_method_12_code 13 = .ok (.getfield 32, 3) := by decide +kernel
theorem dMo_apply_16 : decode prog_10_method_12_code 16 = .ok (.iload_n 1, 1) := by decide +kernel
theorem dMo_apply_17 : decode prog_10_method_12_code 17 = .ok (.iaload, 1) := by decide +kernel
theorem dMo_apply_18 : decode prog_10_method_12_code 18 = .ok (.iastore, 1) := by decide +kernel
theorem dMo_apply_19 : decode prog_10_method_12_code 19 = .ok (.aload_n 0, 1) := by decide +kernel
theorem dMo_apply_20 : decode prog_10_method_12_code 20 = .ok (.getfield 23, 3) := by decide +kernel
theorem dMo_apply_23 : decode prog_10_method_12_code 23 = .ok (.iload_n 2, 1) := by decide +kernel
theorem dMo_apply_24 : decode prog_10_method_12_code 24 = .ok (.aload_n 0, 1) := by decide +kernel
theorem dMo_apply_25 : decode prog_10_method_12_code 25 = .ok (.getfield 35, 3) := by decide +kernel
theorem dMo_apply_28 : decode prog_10_method_12_code 28 = .ok (.iload_n 1, 1) := by decide +kernel
theorem dMo_apply_29 : decode prog_10_method_12_code 29 = .ok (.iaload, 1) := by decide +kernel
theorem dMo_apply_30 : decode prog_10_method_12_code 30 = .ok (.iastore, 1) := by decide +kernel
theorem dMo_apply_31 : decode prog_10_method_12_code 31 = .ok (.iconst 0, 1) := by decide +kernel
theorem dMo_apply_32 : decode prog_10_method_12_code 32 = .ok (.istore_n 3, 1) := by decide +kernel
theorem dMo_apply_33 : decode prog_10_method_12_code 33 = .ok (.iload_n 3, 1) := by decide +kernel
theorem dMo_apply_34 : decode prog_10_method_12_code 34 = .ok (.aload_n 0, 1) := by decide +kernel
theorem dMo_apply_35 : decode prog_10_method_12_code 35 = .ok (.getfield 35, 3) := by decide +kernel
theorem dMo_apply_38 : decode prog_10_method_12_code 38 = .ok (.iload_n 1, 1) := by decide +kernel
theorem dMo_apply_39 : decode prog_10_method_12_code 39 = .ok (.iaload, 1) := by decide +kernel
theorem dMo_apply_40 : decode prog_10_method_12_code 40 = .ok (.if_icmp .ge 31, 3) := by decide +kernel
theorem dMo_apply_43 : decode prog_10_method_12_code 43 = .ok (.aload_n 0, 1) := by decide +kernel
theorem dMo_apply_44 : decode prog_10_method_12_code 44 = .ok (.getfield 26, 3) := by decide +kernel
theorem dMo_apply_47 : decode prog_10_method_12_code 47 = .ok (.bipush 20, 2) := by decide +kernel
theorem dMo_apply_49 : decode prog_10_method_12_code 49 = .ok (.iload_n 2, 1) := by decide +kernel
theorem dMo_apply_50 : decode prog_10_method_12_code 50 = .ok (.imul, 1) := by decide +kernel
theorem dMo_apply_51 : decode prog_10_method_12_code 51 = .ok (.iload_n 3, 1) := by decide +kernel
theorem dMo_apply_52 : decode prog_10_method_12_code 52 = .ok (.iadd, 1) := by decide +kernel
theorem dMo_apply_53 : decode prog_10_method_12_code 53 = .ok (.aload_n 0, 1) := by decide +kernel
theorem dMo_apply_54 : decode prog_10_method_12_code 54 = .ok (.getfield 41, 3) := by decide +kernel
theorem dMo_apply_57 : decode prog_10_method_12_code 57 = .ok (.bipush 20, 2) := by decide +kernel
theorem dMo_apply_59 : decode prog_10_method_12_code 59 = .ok (.iload_n 1, 1) := by decide +kernel
theorem dMo_apply_60 : decode prog_10_method_12_code 60 = .ok (.imul, 1) := by decide +kernel
theorem dMo_apply_61 : decode prog_10_method_12_code 61 = .ok (.iload_n 3, 1) := by decide +kernel
theorem dMo_apply_62 : decode prog_10_method_12_code 62 = .ok (.iadd, 1) := by decide +kernel
theorem dMo_apply_63 : decode prog_10_method_12_code 63 = .ok (.laload, 1) := by decide +kernel
theorem dMo_apply_64 : decode prog_10_method_12_code 64 = .ok (.lastore, 1) := by decide +kernel
theorem dMo_apply_65 : decode prog_10_method_12_code 65 = .ok (.iinc 3 1, 3) := by decide +kernel
theorem dMo_apply_68 : decode prog_10_method_12_code 68 = .ok (.goto (-35), 3) := by decide +kernel
theorem dMo_apply_71 : decode prog_10_method_12_code 71 = .ok (.return_, 1) := by decide +kernel
theorem dMo_untrain_0 : decode prog_10_method_14_code 0 = .ok (.iload_n 1, 1) := by decide +kernel
theorem dMo_untrain_1 : decode prog_10_method_14_code 1 = .ok (.invokestatic 72, 3) := by decide +kernel
theorem dMo_untrain_4 : decode prog_10_method_14_code 4 = .ok (.ifCond .ne 5, 3) := by decide +kernel
theorem dMo_untrain_7 : decode prog_10_method_14_code 7 = .ok (.iconst (-1), 1) := by decide +kernel
theorem dMo_untrain_8 : decode prog_10_method_14_code 8 = .ok (.ireturn, 1) := by decide +kernel
theorem dMo_untrain_9 : decode prog_10_method_14_code 9 = .ok (.aload_n 0, 1) := by decide +kernel
theorem dMo_untrain_10 : decode prog_10_method_14_code 10 = .ok (.getfield 20, 3) := by decide +kernel
theorem dMo_untrain_13 : decode prog_10_method_14_code 13 = .ok (.iload_n 1, 1) := by decide +kernel
theorem dMo_untrain_14 : decode prog_10_method_14_code 14 = .ok (.iaload, 1) := by decide +kernel
theorem dMo_untrain_15 : decode prog_10_method_14_code 15 = .ok (.iconst 1, 1) := by decide +kernel
theorem dMo_untrain_16 : decode prog_10_method_14_code 16 = .ok (.isub, 1) := by decide +kernel
theorem dMo_untrain_17 : decode prog_10_method_14_code 17 = .ok (.istore_n 2, 1) := by decide +kernel
theorem dMo_untrain_18 : decode prog_10_method_14_code 18 = .ok (.iload_n 2, 1) := by decide +kernel
theorem dMo_untrain_19 : decode prog_10_method_14_code 19 = .ok (.ifCond .ge 6, 3) := by decide +kernel
theorem dMo_untrain_22 : decode prog_10_method_14_code 22 = .ok (.bipush (-3), 2) := by decide +kernel
theorem dMo_untrain_24 : decode prog_10_method_14_code 24 = .ok (.ireturn, 1) := by decide +kernel
theorem dMo_untrain_25 : decode prog_10_method_14_code 25 = .ok (.aload_n 0, 1) := by decide +kernel
theorem dMo_untrain_26 : decode prog_10_method_14_code 26 = .ok (.invokevirtual 80, 3) := by decide +kernel
theorem dMo_untrain_29 : decode prog_10_method_14_code 29 = .ok (.bipush 24, 2) := by decide +kernel
theorem dMo_untrain_31 : decode prog_10_method_14_code 31 = .ok (.if_icmp .ne 6, 3) := by decide +kernel
theorem dMo_untrain_34 : decode prog_10_method_14_code 34 = .ok (.bipush (-5), 2) := by decide +kernel
theorem dMo_untrain_36 : decode prog_10_method_14_code 36 = .ok (.ireturn, 1) := by decide +kernel
theorem dMo_untrain_37 : decode prog_10_method_14_code 37 = .ok (.aload_n 0, 1) := by decide +kernel
theorem dMo_untrain_38 : decode prog_10_method_14_code 38 = .ok (.iload_n 1, 1) := by decide +kernel
theorem dMo_untrain_39 : decode prog_10_method_14_code 39 = .ok (.iconst 0, 1) := by decide +kernel
theorem dMo_untrain_40 : decode prog_10_method_14_code 40 = .ok (.iconst 0, 1) := by decide +kernel
theorem dMo_untrain_41 : decode prog_10_method_14_code 41 = .ok (.iconst 1, 1) := by decide +kernel
theorem dMo_untrain_42 : decode prog_10_method_14_code 42 = .ok (.invokevirtual 83, 3) := by decide +kernel
theorem dMo_untrain_45 : decode prog_10_method_14_code 45 = .ok (.aload_n 0, 1) := by decide +kernel
theorem dMo_untrain_46 : decode prog_10_method_14_code 46 = .ok (.aload_n 0, 1) := by decide +kernel
theorem dMo_untrain_47 : decode prog_10_method_14_code 47 = .ok (.getfield 69, 3) := by decide +kernel
theorem dMo_untrain_50 : decode prog_10_method_14_code 50 = .ok (.iconst 1, 1) := by decide +kernel
theorem dMo_untrain_51 : decode prog_10_method_14_code 51 = .ok (.isub, 1) := by decide +kernel
theorem dMo_untrain_52 : decode prog_10_method_14_code 52 = .ok (.invokevirtual 87, 3) := by decide +kernel
theorem dMo_untrain_55 : decode prog_10_method_14_code 55 = .ok (.iload_n 2, 1) := by decide +kernel
theorem dMo_untrain_56 : decode prog_10_method_14_code 56 = .ok (.ireturn, 1) := by decide +kernel
theorem dMo_sync_0 : decode prog_10_method_16_code 0 = .ok (.aload_n 0, 1) := by decide +kernel
theorem dMo_sync_1 : decode prog_10_method_16_code 1 = .ok (.invokevirtual 80, 3) := by decide +kernel
theorem dMo_sync_4 : decode prog_10_method_16_code 4 = .ok (.istore_n 1, 1) := by decide +kernel
theorem dMo_sync_5 : decode prog_10_method_16_code 5 = .ok (.aload_n 0, 1) := by decide +kernel
theorem dMo_sync_6 : decode prog_10_method_16_code 6 = .ok (.iconst 0, 1) := by decide +kernel
theorem dMo_sync_7 : decode prog_10_method_16_code 7 = .ok (.bipush 32, 2) := by decide +kernel
theorem dMo_sync_9 : decode prog_10_method_16_code 9 = .ok (.invokevirtual 91, 3) := by decide +kernel
theorem dMo_sync_12 : decode prog_10_method_16_code 12 = .ok (.aload_n 0, 1) := by decide +kernel
theorem dMo_sync_13 : decode prog_10_method_16_code 13 = .ok (.iconst 0, 1) := by decide +kernel
theorem dMo_sync_14 : decode prog_10_method_16_code 14 = .ok (.putfield 69, 3) := by decide +kernel
theorem dMo_sync_17 : decode prog_10_method_16_code 17 = .ok (.iload_n 1, 1) := by decide +kernel
theorem dMo_sync_18 : decode prog_10_method_16_code 18 = .ok (.ireturn, 1) := by decide +kernel
theorem dMo_copy_0 : decode prog_10_method_15_code 0 = .ok (.iconst 0, 1) := by decide +kernel
theorem dMo_copy_1 : decode prog_10_method_15_code 1 = .ok (.istore_n 3, 1) := by decide +kernel
theorem dMo_copy_2 : decode prog_10_method_15_code 2 = .ok (.iload_n 3, 1) := by decide +kernel
theorem dMo_copy_3 : decode prog_10_method_15_code 3 = .ok (.bipush 32, 2) := by decide +kernel
theorem dMo_copy_5 : decode prog_10_method_15_code 5 = .ok (.if_icmp .ge 41, 3) := by decide +kernel
theorem dMo_copy_8 : decode prog_10_method_15_code 8 = .ok (.aload_n 0, 1) := by decide +kernel
theorem dMo_copy_9 : decode prog_10_method_15_code 9 = .ok (.getfield 20, 3) := by decide +kernel
theorem dMo_copy_12 : decode prog_10_method_15_code 12 = .ok (.iload_n 2, 1) := by decide +kernel
theorem dMo_copy_13 : decode prog_10_method_15_code 13 = .ok (.iload_n 3, 1) := by decide +kernel
theorem dMo_copy_14 : decode prog_10_method_15_code 14 = .ok (.iadd, 1) := by decide +kernel
theorem dMo_copy_15 : decode prog_10_method_15_code 15 = .ok (.aload_n 0, 1) := by decide +kernel
theorem dMo_copy_16 : decode prog_10_method_15_code 16 = .ok (.getfield 20, 3) := by decide +kernel
theorem dMo_copy_19 : decode prog_10_method_15_code 19 = .ok (.iload_n 1, 1) := by decide +kernel
theorem dMo_copy_20 : decode prog_10_method_15_code 20 = .ok (.iload_n 3, 1) := by decide +kernel
theorem dMo_copy_21 : decode prog_10_method_15_code 21 = .ok (.iadd, 1) := by decide +kernel
theorem dMo_copy_22 : decode prog_10_method_15_code 22 = .ok (.iaload, 1) := by decide +kernel
theorem dMo_copy_23 : decode prog_10_method_15_code 23 = .ok (.iastore, 1) := by decide +kernel
theorem dMo_copy_24 : decode prog_10_method_15_code 24 = .ok (.aload_n 0, 1) := by decide +kernel
theorem dMo_copy_25 : decode prog_10_method_15_code 25 = .ok (.getfield 23, 3) := by decide +kernel
theorem dMo_copy_28 : decode prog_10_method_15_code 28 = .ok (.iload_n 2, 1) := by decide +kernel
theorem dMo_copy_29 : decode prog_10_method_15_code 29 = .ok (.iload_n 3, 1) := by decide +kernel
theorem dMo_copy_30 : decode prog_10_method_15_code 30 = .ok (.iadd, 1) := by decide +kernel
theorem dMo_copy_31 : decode prog_10_method_15_code 31 = .ok (.aload_n 0, 1) := by decide +kernel
theorem dMo_copy_32 : decode prog_10_method_15_code 32 = .ok (.getfield 23, 3) := by decide +kernel
theorem dMo_copy_35 : decode prog_10_method_15_code 35 = .ok (.iload_n 1, 1) := by decide +kernel
theorem dMo_copy_36 : decode prog_10_method_15_code 36 = .ok (.iload_n 3, 1) := by decide +kernel
theorem dMo_copy_37 : decode prog_10_method_15_code 37 = .ok (.iadd, 1) := by decide +kernel
theorem dMo_copy_38 : decode prog_10_method_15_code 38 = .ok (.iaload, 1) := by decide +kernel
theorem dMo_copy_39 : decode prog_10_method_15_code 39 = .ok (.iastore, 1) := by decide +kernel
theorem dMo_copy_40 : decode prog_10_method_15_code 40 = .ok (.iinc 3 1, 3) := by decide +kernel
theorem dMo_copy_43 : decode prog_10_method_15_code 43 = .ok (.goto (-41), 3) := by decide +kernel
theorem dMo_copy_46 : decode prog_10_method_15_code 46 = .ok (.iconst 0, 1) := by decide +kernel
theorem dMo_copy_47 : decode prog_10_method_15_code 47 = .ok (.istore_n 3, 1) := by decide +kernel
theorem dMo_copy_48 : decode prog_10_method_15_code 48 = .ok (.iload_n 3, 1) := by decide +kernel
theorem dMo_copy_49 : decode prog_10_method_15_code 49 = .ok (.sipush 640, 3) := by decide +kernel
theorem dMo_copy_52 : decode prog_10_method_15_code 52 = .ok (.if_icmp .ge 31, 3) := by decide +kernel
theorem dMo_copy_55 : decode prog_10_method_15_code 55 = .ok (.aload_n 0, 1) := by decide +kernel
theorem dMo_copy_56 : decode prog_10_method_15_code 56 = .ok (.getfield 26, 3) := by decide +kernel
theorem dMo_copy_59 : decode prog_10_method_15_code 59 = .ok (.bipush 20, 2) := by decide +kernel
theorem dMo_copy_61 : decode prog_10_method_15_code 61 = .ok (.iload_n 2, 1) := by decide +kernel
theorem dMo_copy_62 : decode prog_10_method_15_code 62 = .ok (.imul, 1) := by decide +kernel
theorem dMo_copy_63 : decode prog_10_method_15_code 63 = .ok (.iload_n 3, 1) := by decide +kernel
theorem dMo_copy_64 : decode prog_10_method_15_code 64 = .ok (.iadd, 1) := by decide +kernel
theorem dMo_copy_65 : decode prog_10_method_15_code 65 = .ok (.aload_n 0, 1) := by decide +kernel
end
section
theorem dMo_copy_66 : decode prog_10_method_15_code 66 = .ok (.getfield 26, 3) := by decide +kernel
theorem dMo_copy_69 : decode prog_10_method_15_code 69 = .ok (.bipush 20, 2) := by decide +kernel
theorem dMo_copy_71 : decode prog_10_method_15_code 71 = .ok (.iload_n 1, 1) := by decide +kernel
theorem dMo_copy_72 : decode prog_10_method_15_code 72 = .ok (.imul, 1) := by decide +kernel
theorem dMo_copy_73 : decode prog_10_method_15_code 73 = .ok (.iload_n 3, 1) := by decide +kernel
theorem dMo_copy_74 : decode prog_10_method_15_code 74 = .ok (.iadd, 1) := by decide +kernel
theorem dMo_copy_75 : decode prog_10_method_15_code 75 = .ok (.laload, 1) := by decide +kernel
theorem dMo_copy_76 : decode prog_10_method_15_code 76 = .ok (.lastore, 1) := by decide +kernel
theorem dMo_copy_77 : decode prog_10_method_15_code 77 = .ok (.iinc 3 1, 3) := by decide +kernel
theorem dMo_copy_80 : decode prog_10_method_15_code 80 = .ok (.goto (-32), 3) := by decide +kernel
theorem dMo_copy_83 : decode prog_10_method_15_code 83 = .ok (.return_, 1) := by decide +kernel
theorem dMo_fail_0 : decode prog_10_method_17_code 0 = .ok (.aload_n 0, 1) := by decide +kernel
theorem dMo_fail_1 : decode prog_10_method_17_code 1 = .ok (.bipush 32, 2) := by decide +kernel
theorem dMo_fail_3 : decode prog_10_method_17_code 3 = .ok (.iconst 0, 1) := by decide +kernel
theorem dMo_fail_4 : decode prog_10_method_17_code 4 = .ok (.invokevirtual 91, 3) := by decide +kernel
theorem dMo_fail_7 : decode prog_10_method_17_code 7 = .ok (.iload_n 1, 1) := by decide +kernel
theorem dMo_fail_8 : decode prog_10_method_17_code 8 = .ok (.istore_n 2, 1) := by decide +kernel
theorem dMo_fail_9 : decode prog_10_method_17_code 9 = .ok (.iconst 0, 1) := by decide +kernel
theorem dMo_fail_10 : decode prog_10_method_17_code 10 = .ok (.istore_n 3, 1) := by decide +kernel
theorem dMo_fail_11 : decode prog_10_method_17_code 11 = .ok (.iload_n 3, 1) := by decide +kernel
theorem dMo_fail_12 : decode prog_10_method_17_code 12 = .ok (.aload_n 0, 1) := by decide +kernel
theorem dMo_fail_13 : decode prog_10_method_17_code 13 = .ok (.getfield 69, 3) := by decide +kernel
theorem dMo_fail_16 : decode prog_10_method_17_code 16 = .ok (.if_icmp .ge 33, 3) := by decide +kernel
theorem dMo_fail_19 : decode prog_10_method_17_code 19 = .ok (.aload_n 0, 1) := by decide +kernel
theorem dMo_fail_20 : decode prog_10_method_17_code 20 = .ok (.getfield 38, 3) := by decide +kernel
theorem dMo_fail_23 : decode prog_10_method_17_code 23 = .ok (.iload_n 3, 1) := by decide +kernel
theorem dMo_fail_24 : decode prog_10_method_17_code 24 = .ok (.iaload, 1) := by decide +kernel
theorem dMo_fail_25 : decode prog_10_method_17_code 25 = .ok (.iload_n 2, 1) := by decide +kernel
theorem dMo_fail_26 : decode prog_10_method_17_code 26 = .ok (.if_icmp .gt 23, 3) := by decide +kernel
theorem dMo_fail_29 : decode prog_10_method_17_code 29 = .ok (.iload_n 2, 1) := by decide +kernel
theorem dMo_fail_30 : decode prog_10_method_17_code 30 = .ok (.aload_n 0, 1) := by decide +kernel
theorem dMo_fail_31 : decode prog_10_method_17_code 31 = .ok (.getfield 38, 3) := by decide +kernel
theorem dMo_fail_34 : decode prog_10_method_17_code 34 = .ok (.iload_n 3, 1) := by decide +kernel
theorem dMo_fail_35 : decode prog_10_method_17_code 35 = .ok (.iaload, 1) := by decide +kernel
theorem dMo_fail_36 : decode prog_10_method_17_code 36 = .ok (.isub, 1) := by decide +kernel
theorem dMo_fail_37 : decode prog_10_method_17_code 37 = .ok (.istore_n 2, 1) := by decide +kernel
theorem dMo_fail_38 : decode prog_10_method_17_code 38 = .ok (.aload_n 0, 1) := by decide +kernel
theorem dMo_fail_39 : decode prog_10_method_17_code 39 = .ok (.iload_n 3, 1) := by decide +kernel
theorem dMo_fail_40 : decode prog_10_method_17_code 40 = .ok (.invokevirtual 87, 3) := by decide +kernel
theorem dMo_fail_43 : decode prog_10_method_17_code 43 = .ok (.iinc 3 1, 3) := by decide +kernel
theorem dMo_fail_46 : decode prog_10_method_17_code 46 = .ok (.goto (-35), 3) := by decide +kernel
theorem dMo_fail_49 : decode prog_10_method_17_code 49 = .ok (.aload_n 0, 1) := by decide +kernel
theorem dMo_fail_50 : decode prog_10_method_17_code 50 = .ok (.getfield 69, 3) := by decide +kernel
theorem dMo_fail_53 : decode prog_10_method_17_code 53 = .ok (.iload_n 3, 1) := by decide +kernel
theorem dMo_fail_54 : decode prog_10_method_17_code 54 = .ok (.isub, 1) := by decide +kernel
theorem dMo_fail_55 : decode prog_10_method_17_code 55 = .ok (.istore 4, 2) := by decide +kernel
theorem dMo_fail_57 : decode prog_10_method_17_code 57 = .ok (.aload_n 0, 1) := by decide +kernel
theorem dMo_fail_58 : decode prog_10_method_17_code 58 = .ok (.iconst 0, 1) := by decide +kernel
theorem dMo_fail_59 : decode prog_10_method_17_code 59 = .ok (.bipush 32, 2) := by decide +kernel
theorem dMo_fail_61 : decode prog_10_method_17_code 61 = .ok (.invokevirtual 91, 3) := by decide +kernel
theorem dMo_fail_64 : decode prog_10_method_17_code 64 = .ok (.aload_n 0, 1) := by decide +kernel
theorem dMo_fail_65 : decode prog_10_method_17_code 65 = .ok (.iconst 0, 1) := by decide +kernel
theorem dMo_fail_66 : decode prog_10_method_17_code 66 = .ok (.putfield 69, 3) := by decide +kernel
theorem dMo_fail_69 : decode prog_10_method_17_code 69 = .ok (.iload 4, 2) := by decide +kernel
theorem dMo_fail_71 : decode prog_10_method_17_code 71 = .ok (.ireturn, 1) := by decide +kernel
theorem dMo_documents_0 : decode prog_10_method_19_code 0 = .ok (.iload_n 1, 1) := by decide +kernel
theorem dMo_documents_1 : decode prog_10_method_19_code 1 = .ok (.iconst (-1), 1) := by decide +kernel
theorem dMo_documents_2 : decode prog_10_method_19_code 2 = .ok (.if_icmp .lt 11, 3) := by decide +kernel
theorem dMo_documents_5 : decode prog_10_method_19_code 5 = .ok (.iload_n 1, 1) := by decide +kernel
theorem dMo_documents_6 : decode prog_10_method_19_code 6 = .ok (.aload_n 0, 1) := by decide +kernel
theorem dMo_documents_7 : decode prog_10_method_19_code 7 = .ok (.getfield 50, 3) := by decide +kernel
theorem dMo_documents_10 : decode prog_10_method_19_code 10 = .ok (.if_icmp .lt 5, 3) := by decide +kernel
theorem dMo_documents_13 : decode prog_10_method_19_code 13 = .ok (.iconst (-1), 1) := by decide +kernel
theorem dMo_documents_14 : decode prog_10_method_19_code 14 = .ok (.ireturn, 1) := by decide +kernel
theorem dMo_documents_15 : decode prog_10_method_19_code 15 = .ok (.iconst 0, 1) := by decide +kernel
theorem dMo_documents_16 : decode prog_10_method_19_code 16 = .ok (.istore_n 2, 1) := by decide +kernel
theorem dMo_documents_17 : decode prog_10_method_19_code 17 = .ok (.iconst 0, 1) := by decide +kernel
theorem dMo_documents_18 : decode prog_10_method_19_code 18 = .ok (.istore_n 3, 1) := by decide +kernel
theorem dMo_documents_19 : decode prog_10_method_19_code 19 = .ok (.iload_n 3, 1) := by decide +kernel
theorem dMo_documents_20 : decode prog_10_method_19_code 20 = .ok (.bipush 32, 2) := by decide +kernel
theorem dMo_documents_22 : decode prog_10_method_19_code 22 = .ok (.if_icmp .ge 42, 3) := by decide +kernel
theorem dMo_documents_25 : decode prog_10_method_19_code 25 = .ok (.aload_n 0, 1) := by decide +kernel
theorem dMo_documents_26 : decode prog_10_method_19_code 26 = .ok (.getfield 20, 3) := by decide +kernel
theorem dMo_documents_29 : decode prog_10_method_19_code 29 = .ok (.iload_n 3, 1) := by decide +kernel
theorem dMo_documents_30 : decode prog_10_method_19_code 30 = .ok (.iaload, 1) := by decide +kernel
theorem dMo_documents_31 : decode prog_10_method_19_code 31 = .ok (.ifCond .le 25, 3) := by decide +kernel
theorem dMo_documents_34 : decode prog_10_method_19_code 34 = .ok (.iload_n 1, 1) := by decide +kernel
theorem dMo_documents_35 : decode prog_10_method_19_code 35 = .ok (.ifCond .lt 15, 3) := by decide +kernel
theorem dMo_documents_38 : decode prog_10_method_19_code 38 = .ok (.aload_n 0, 1) := by decide +kernel
theorem dMo_documents_39 : decode prog_10_method_19_code 39 = .ok (.getfield 20, 3) := by decide +kernel
theorem dMo_documents_42 : decode prog_10_method_19_code 42 = .ok (.iload_n 3, 1) := by decide +kernel
theorem dMo_documents_43 : decode prog_10_method_19_code 43 = .ok (.iaload, 1) := by decide +kernel
theorem dMo_documents_44 : decode prog_10_method_19_code 44 = .ok (.iload_n 1, 1) := by decide +kernel
theorem dMo_documents_45 : decode prog_10_method_19_code 45 = .ok (.iconst 1, 1) := by decide +kernel
theorem dMo_documents_46 : decode prog_10_method_19_code 46 = .ok (.iadd, 1) := by decide +kernel
theorem dMo_documents_47 : decode prog_10_method_19_code 47 = .ok (.if_icmp .ne 9, 3) := by decide +kernel
theorem dMo_documents_50 : decode prog_10_method_19_code 50 = .ok (.iload_n 2, 1) := by decide +kernel
theorem dMo_documents_51 : decode prog_10_method_19_code 51 = .ok (.iconst 1, 1) := by decide +kernel
theorem dMo_documents_52 : decode prog_10_method_19_code 52 = .ok (.iadd, 1) := by decide +kernel
theorem dMo_documents_53 : decode prog_10_method_19_code 53 = .ok (.goto 4, 3) := by decide +kernel
theorem dMo_documents_56 : decode prog_10_method_19_code 56 = .ok (.iload_n 2, 1) := by decide +kernel
theorem dMo_documents_57 : decode prog_10_method_19_code 57 = .ok (.istore_n 2, 1) := by decide +kernel
theorem dMo_documents_58 : decode prog_10_method_19_code 58 = .ok (.iinc 3 1, 3) := by decide +kernel
theorem dMo_documents_61 : decode prog_10_method_19_code 61 = .ok (.goto (-42), 3) := by decide +kernel
theorem dMo_documents_64 : decode prog_10_method_19_code 64 = .ok (.iload_n 2, 1) := by decide +kernel
theorem dMo_documents_65 : decode prog_10_method_19_code 65 = .ok (.ireturn, 1) := by decide +kernel
theorem dMo_total_0 : decode prog_10_method_20_code 0 = .ok (.aload_n 0, 1) := by decide +kernel
theorem dMo_total_1 : decode prog_10_method_20_code 1 = .ok (.iload_n 1, 1) := by decide +kernel
theorem dMo_total_2 : decode prog_10_method_20_code 2 = .ok (.invokevirtual 95, 3) := by decide +kernel
theorem dMo_total_5 : decode prog_10_method_20_code 5 = .ok (.ifCond .ne 5, 3) := by decide +kernel
theorem dMo_total_8 : decode prog_10_method_20_code 8 = .ok (.iconst (-1), 1) := by decide +kernel
theorem dMo_total_9 : decode prog_10_method_20_code 9 = .ok (.ireturn, 1) := by decide +kernel
theorem dMo_total_10 : decode prog_10_method_20_code 10 = .ok (.iconst 0, 1) := by decide +kernel
theorem dMo_total_11 : decode prog_10_method_20_code 11 = .ok (.istore_n 2, 1) := by decide +kernel
theorem dMo_total_12 : decode prog_10_method_20_code 12 = .ok (.iconst 0, 1) := by decide +kernel
theorem dMo_total_13 : decode prog_10_method_20_code 13 = .ok (.istore_n 3, 1) := by decide +kernel
theorem dMo_total_14 : decode prog_10_method_20_code 14 = .ok (.iload_n 3, 1) := by decide +kernel
theorem dMo_total_15 : decode prog_10_method_20_code 15 = .ok (.bipush 32, 2) := by decide +kernel
theorem dMo_total_17 : decode prog_10_method_20_code 17 = .ok (.if_icmp .ge 34, 3) := by decide +kernel
theorem dMo_total_20 : decode prog_10_method_20_code 20 = .ok (.aload_n 0, 1) := by decide +kernel
theorem dMo_total_21 : decode prog_10_method_20_code 21 = .ok (.getfield 20, 3) := by decide +kernel
theorem dMo_total_24 : decode prog_10_method_20_code 24 = .ok (.iload_n 3, 1) := by decide +kernel
theorem dMo_total_25 : decode prog_10_method_20_code 25 = .ok (.iaload, 1) := by decide +kernel
theorem dMo_total_26 : decode prog_10_method_20_code 26 = .ok (.iload_n 1, 1) := by decide +kernel
theorem dMo_total_27 : decode prog_10_method_20_code 27 = .ok (.iconst 1, 1) := by decide +kernel
theorem dMo_total_28 : decode prog_10_method_20_code 28 = .ok (.iadd, 1) := by decide +kernel
theorem dMo_total_29 : decode prog_10_method_20_code 29 = .ok (.if_icmp .ne 14, 3) := by decide +kernel
theorem dMo_total_32 : decode prog_10_method_20_code 32 = .ok (.iload_n 2, 1) := by decide +kernel
theorem dMo_total_33 : decode prog_10_method_20_code 33 = .ok (.aload_n 0, 1) := by decide +kernel
theorem dMo_total_34 : decode prog_10_method_20_code 34 = .ok (.getfield 23, 3) := by decide +kernel
theorem dMo_total_37 : decode prog_10_method_20_code 37 = .ok (.iload_n 3, 1) := by decide +kernel
theorem dMo_total_38 : decode prog_10_method_20_code 38 = .ok (.iaload, 1) := by decide +kernel
theorem dMo_total_39 : decode prog_10_method_20_code 39 = .ok (.iadd, 1) := by decide +kernel
theorem dMo_total_40 : decode prog_10_method_20_code 40 = .ok (.goto 4, 3) := by decide +kernel
theorem dMo_total_43 : decode prog_10_method_20_code 43 = .ok (.iload_n 2, 1) := by decide +kernel
theorem dMo_total_44 : decode prog_10_method_20_code 44 = .ok (.istore_n 2, 1) := by decide +kernel
theorem dMo_total_45 : decode prog_10_method_20_code 45 = .ok (.iinc 3 1, 3) := by decide +kernel
theorem dMo_total_48 : decode prog_10_method_20_code 48 = .ok (.goto (-34), 3) := by decide +kernel
theorem dMo_total_51 : decode prog_10_method_20_code 51 = .ok (.iload_n 2, 1) := by decide +kernel
theorem dMo_total_52 : decode prog_10_method_20_code 52 = .ok (.ireturn, 1) := by decide +kernel
theorem dMo_isClass_0 : decode prog_10_method_18_code 0 = .ok (.iload_n 1, 1) := by decide +kernel
theorem dMo_isClass_1 : decode prog_10_method_18_code 1 = .ok (.ifCond .lt 15, 3) := by decide +kernel
theorem dMo_isClass_4 : decode prog_10_method_18_code 4 = .ok (.iload_n 1, 1) := by decide +kernel
theorem dMo_isClass_5 : decode prog_10_method_18_code 5 = .ok (.aload_n 0, 1) := by decide +kernel
theorem dMo_isClass_6 : decode prog_10_method_18_code 6 = .ok (.getfield 50, 3) := by decide +kernel
theorem dMo_isClass_9 : decode prog_10_method_18_code 9 = .ok (.if_icmp .ge 7, 3) := by decide +kernel
theorem dMo_isClass_12 : decode prog_10_method_18_code 12 = .ok (.iconst 1, 1) := by decide +kernel
theorem dMo_isClass_13 : decode prog_10_method_18_code 13 = .ok (.goto 4, 3) := by decide +kernel
theorem dMo_isClass_16 : decode prog_10_method_18_code 16 = .ok (.iconst 0, 1) := by decide +kernel
theorem dMo_isClass_17 : decode prog_10_method_18_code 17 = .ok (.ireturn, 1) := by decide +kernel
theorem dMo_count_0 : decode prog_10_method_22_code 0 = .ok (.aload_n 0, 1) := by decide +kernel
theorem dMo_count_1 : decode prog_10_method_22_code 1 = .ok (.invokevirtual 66, 3) := by decide +kernel
theorem dMo_count_4 : decode prog_10_method_22_code 4 = .ok (.aload_n 0, 1) := by decide +kernel
theorem dMo_count_5 : decode prog_10_method_22_code 5 = .ok (.iload_n 1, 1) := by decide +kernel
theorem dMo_count_6 : decode prog_10_method_22_code 6 = .ok (.invokevirtual 95, 3) := by decide +kernel
theorem dMo_count_9 : decode prog_10_method_22_code 9 = .ok (.ifCond .eq 15, 3) := by decide +kernel
theorem dMo_count_12 : decode prog_10_method_22_code 12 = .ok (.iload_n 2, 1) := by decide +kernel
theorem dMo_count_13 : decode prog_10_method_22_code 13 = .ok (.ifCond .lt 11, 3) := by decide +kernel
theorem dMo_count_16 : decode prog_10_method_22_code 16 = .ok (.iload_n 2, 1) := by decide +kernel
theorem dMo_count_17 : decode prog_10_method_22_code 17 = .ok (.aload_n 0, 1) := by decide +kernel
theorem dMo_count_18 : decode prog_10_method_22_code 18 = .ok (.getfield 57, 3) := by decide +kernel
theorem dMo_count_21 : decode prog_10_method_22_code 21 = .ok (.if_icmp .lt 7, 3) := by decide +kernel
theorem dMo_count_24 : decode prog_10_method_22_code 24 = .ok (.iconst (-1), 1) := by decide +kernel
theorem dMo_count_25 : decode prog_10_method_22_code 25 = .ok (.goto 14, 3) := by decide +kernel
theorem dMo_count_28 : decode prog_10_method_22_code 28 = .ok (.aload_n 0, 1) := by decide +kernel
theorem dMo_count_29 : decode prog_10_method_22_code 29 = .ok (.iload_n 1, 1) := by decide +kernel
theorem dMo_count_30 : decode prog_10_method_22_code 30 = .ok (.aload_n 0, 1) := by decide +kernel
theorem dMo_count_31 : decode prog_10_method_22_code 31 = .ok (.getfield 13, 3) := by decide +kernel
theorem dMo_count_34 : decode prog_10_method_22_code 34 = .ok (.iload_n 2, 1) := by decide +kernel
theorem dMo_count_35 : decode prog_10_method_22_code 35 = .ok (.laload, 1) := by decide +kernel
theorem dMo_count_36 : decode prog_10_method_22_code 36 = .ok (.invokevirtual 98, 3) := by decide +kernel
theorem dMo_count_39 : decode prog_10_method_22_code 39 = .ok (.ireturn, 1) := by decide +kernel
theorem dMo_howOften_0 : decode prog_10_method_21_code 0 = .ok (.iconst 0, 1) := by decide +kernel
theorem dMo_howOften_1 : decode prog_10_method_21_code 1 = .ok (.istore 4, 2) := by decide +kernel
theorem dMo_howOften_3 : decode prog_10_method_21_code 3 = .ok (.iconst 0, 1) := by decide +kernel
theorem dMo_howOften_4 : decode prog_10_method_21_code 4 = .ok (.istore 5, 2) := by decide +kernel
theorem dMo_howOften_6 : decode prog_10_method_21_code 6 = .ok (.iload 5, 2) := by decide +kernel
theorem dMo_howOften_8 : decode prog_10_method_21_code 8 = .ok (.bipush 32, 2) := by decide +kernel
theorem dMo_howOften_10 : decode prog_10_method_21_code 10 = .ok (.if_icmp .ge 72, 3) := by decide +kernel
theorem dMo_howOften_13 : decode prog_10_method_21_code 13 = .ok (.iconst 0, 1) := by decide +kernel
theorem dMo_howOften_14 : decode prog_10_method_21_code 14 = .ok (.istore 6, 2) := by decide +kernel
theorem dMo_howOften_16 : decode prog_10_method_21_code 16 = .ok (.iload 6, 2) := by decide +kernel
theorem dMo_howOften_18 : decode prog_10_method_21_code 18 = .ok (.aload_n 0, 1) := by decide +kernel
theorem dMo_howOften_19 : decode prog_10_method_21_code 19 = .ok (.getfield 23, 3) := by decide +kernel
theorem dMo_howOften_22 : decode prog_10_method_21_code 22 = .ok (.iload 5, 2) := by decide +kernel
theorem dMo_howOften_24 : decode prog_10_method_21_code 24 = .ok (.iaload, 1) := by decide +kernel
theorem dMo_howOften_25 : decode prog_10_method_21_code 25 = .ok (.if_icmp .ge 51, 3) := by decide +kernel
theorem dMo_howOften_28 : decode prog_10_method_21_code 28 = .ok (.aload_n 0, 1) := by decide +kernel
theorem dMo_howOften_29 : decode prog_10_method_21_code 29 = .ok (.getfield 20, 3) := by decide +kernel
theorem dMo_howOften_32 : decode prog_10_method_21_code 32 = .ok (.iload 5, 2) := by decide +kernel
theorem dMo_howOften_34 : decode prog_10_method_21_code 34 = .ok (.iaload, 1) := by decide +kernel
theorem dMo_howOften_35 : decode prog_10_method_21_code 35 = .ok (.iload_n 1, 1) := by decide +kernel
theorem dMo_howOften_36 : decode prog_10_method_21_code 36 = .ok (.iconst 1, 1) := by decide +kernel
theorem dMo_howOften_37 : decode prog_10_method_21_code 37 = .ok (.iadd, 1) := by decide +kernel
theorem dMo_howOften_38 : decode prog_10_method_21_code 38 = .ok (.if_icmp .ne 28, 3) := by decide +kernel
theorem dMo_howOften_41 : decode prog_10_method_21_code 41 = .ok (.aload_n 0, 1) := by decide +kernel
theorem dMo_howOften_42 : decode prog_10_method_21_code 42 = .ok (.getfield 26, 3) := by decide +kernel
theorem dMo_howOften_45 : decode prog_10_method_21_code 45 = .ok (.bipush 20, 2) := by decide +kernel
theorem dMo_howOften_47 : decode prog_10_method_21_code 47 = .ok (.iload 5, 2) := by decide +kernel
theorem dMo_howOften_49 : decode prog_10_method_21_code 49 = .ok (.imul, 1) := by decide +kernel
theorem dMo_howOften_50 : decode prog_10_method_21_code 50 = .ok (.iload 6, 2) := by decide +kernel
theorem dMo_howOften_52 : decode prog_10_method_21_code 52 = .ok (.iadd, 1) := by decide +kernel
theorem dMo_howOften_53 : decode prog_10_method_21_code 53 = .ok (.laload, 1) := by decide +kernel
theorem dMo_howOften_54 : decode prog_10_method_21_code 54 = .ok (.lload_n 2, 1) := by decide +kernel
theorem dMo_howOften_55 : decode prog_10_method_21_code 55 = .ok (.lcmp, 1) := by decide +kernel
theorem dMo_howOften_56 : decode prog_10_method_21_code 56 = .ok (.ifCond .ne 10, 3) := by decide +kernel
theorem dMo_howOften_59 : decode prog_10_method_21_code 59 = .ok (.iload 4, 2) := by decide +kernel
theorem dMo_howOften_61 : decode prog_10_method_21_code 61 = .ok (.iconst 1, 1) := by decide +kernel
theorem dMo_howOften_62 : decode prog_10_method_21_code 62 = .ok (.iadd, 1) := by decide +kernel
theorem dMo_howOften_63 : decode prog_10_method_21_code 63 = .ok (.goto 5, 3) := by decide +kernel
theorem dMo_howOften_66 : decode prog_10_method_21_code 66 = .ok (.iload 4, 2) := by decide +kernel
theorem dMo_howOften_68 : decode prog_10_method_21_code 68 = .ok (.istore 4, 2) := by decide +kernel
theorem dMo_howOften_70 : decode prog_10_method_21_code 70 = .ok (.iinc 6 1, 3) := by decide +kernel
theorem dMo_howOften_73 : decode prog_10_method_21_code 73 = .ok (.goto (-57), 3) := by decide +kernel
theorem dMo_howOften_76 : decode prog_10_method_21_code 76 = .ok (.iinc 5 1, 3) := by decide +kernel
theorem dMo_howOften_79 : decode prog_10_method_21_code 79 = .ok (.goto (-73), 3) := by decide +kernel
theorem dMo_howOften_82 : decode prog_10_method_21_code 82 = .ok (.iload 4, 2) := by decide +kernel
theorem dMo_howOften_84 : decode prog_10_method_21_code 84 = .ok (.ireturn, 1) := by decide +kernel
theorem dMo_vocabulary_0 : decode prog_10_method_24_code 0 = .ok (.iconst 0, 1) := by decide +kernel
theorem dMo_vocabulary_1 : decode prog_10_method_24_code 1 = .ok (.istore_n 1, 1) := by decide +kernel
theorem dMo_vocabulary_2 : decode prog_10_method_24_code 2 = .ok (.iconst 0, 1) := by decide +kernel
theorem dMo_vocabulary_3 : decode prog_10_method_24_code 3 = .ok (.istore_n 2, 1) := by decide +kernel
theorem dMo_vocabulary_4 : decode prog_10_method_24_code 4 = .ok (.iload_n 2, 1) := by decide +kernel
theorem dMo_vocabulary_5 : decode prog_10_method_24_code 5 = .ok (.bipush 32, 2) := by decide +kernel
theorem dMo_vocabulary_7 : decode prog_10_method_24_code 7 = .ok (.if_icmp .ge 53, 3) := by decide +kernel
theorem dMo_vocabulary_10 : decode prog_10_method_24_code 10 = .ok (.iconst 0, 1) := by decide +kernel
theorem dMo_vocabulary_11 : decode prog_10_method_24_code 11 = .ok (.istore_n 3, 1) := by decide +kernel
theorem dMo_vocabulary_12 : decode prog_10_method_24_code 12 = .ok (.aload_n 0, 1) := by decide +kernel
theorem dMo_vocabulary_13 : decode prog_10_method_24_code 13 = .ok (.getfield 20, 3) := by decide +kernel
theorem dMo_vocabulary_16 : decode prog_10_method_24_code 16 = .ok (.iload_n 2, 1) := by decide +kernel
theorem dMo_vocabulary_17 : decode prog_10_method_24_code 17 = .ok (.iaload, 1) := by decide +kernel
theorem dMo_vocabulary_18 : decode prog_10_method_24_code 18 = .ok (.ifCond .le 36, 3) := by decide +kernel
theorem dMo_vocabulary_21 : decode prog_10_method_24_code 21 = .ok (.iload_n 3, 1) := by decide +kernel
theorem dMo_vocabulary_22 : decode prog_10_method_24_code 22 = .ok (.aload_n 0, 1) := by decide +kernel
theorem dMo_vocabulary_23 : decode prog_10_method_24_code 23 = .ok (.getfield 23, 3) := by decide +kernel
theorem dMo_vocabulary_26 : decode prog_10_method_24_code 26 = .ok (.iload_n 2, 1) := by decide +kernel
theorem dMo_vocabulary_27 : decode prog_10_method_24_code 27 = .ok (.iaload, 1) := by decide +kernel
theorem dMo_vocabulary_28 : decode prog_10_method_24_code 28 = .ok (.if_icmp .ge 26, 3) := by decide +kernel
theorem dMo_vocabulary_31 : decode prog_10_method_24_code 31 = .ok (.aload_n 0, 1) := by decide +kernel
theorem dMo_vocabulary_32 : decode prog_10_method_24_code 32 = .ok (.iload_n 2, 1) := by decide +kernel
theorem dMo_vocabulary_33 : decode prog_10_method_24_code 33 = .ok (.iload_n 3, 1) := by decide +kernel
theorem dMo_vocabulary_34 : decode prog_10_method_24_code 34 = .ok (.invokevirtual 102, 3) := by decide +kernel
theorem dMo_vocabulary_37 : decode prog_10_method_24_code 37 = .ok (.ifCond .eq 9, 3) := by decide +kernel
theorem dMo_vocabulary_40 : decode prog_10_method_24_code 40 = .ok (.iload_n 1, 1) := by decide +kernel
theorem dMo_vocabulary_41 : decode prog_10_method_24_code 41 = .ok (.iconst 1, 1) := by decide +kernel
theorem dMo_vocabulary_42 : decode prog_10_method_24_code 42 = .ok (.iadd, 1) := by decide +kernel
theorem dMo_vocabulary_43 : decode prog_10_method_24_code 43 = .ok (.goto 4, 3) := by decide +kernel
theorem dMo_vocabulary_46 : decode prog_10_method_24_code 46 = .ok (.iload_n 1, 1) := by decide +kernel
theorem dMo_vocabulary_47 : decode prog_10_method_24_code 47 = .ok (.istore_n 1, 1) := by decide +kernel
theorem dMo_vocabulary_48 : decode prog_10_method_24_code 48 = .ok (.iinc 3 1, 3) := by decide +kernel
theorem dMo_vocabulary_51 : decode prog_10_method_24_code 51 = .ok (.goto (-39), 3) := by decide +kernel
theorem dMo_vocabulary_54 : decode prog_10_method_24_code 54 = .ok (.iinc 2 1, 3) := by decide +kernel
theorem dMo_vocabulary_57 : decode prog_10_method_24_code 57 = .ok (.goto (-53), 3) := by decide +kernel
theorem dMo_vocabulary_60 : decode prog_10_method_24_code 60 = .ok (.iload_n 1, 1) := by decide +kernel
theorem dMo_vocabulary_61 : decode prog_10_method_24_code 61 = .ok (.ireturn, 1) := by decide +kernel
theorem dMo_isNew_0 : decode prog_10_method_23_code 0 = .ok (.aload_n 0, 1) := by decide +kernel
theorem dMo_isNew_1 : decode prog_10_method_23_code 1 = .ok (.getfield 26, 3) := by decide +kernel
theorem dMo_isNew_4 : decode prog_10_method_23_code 4 = .ok (.bipush 20, 2) := by decide +kernel
theorem dMo_isNew_6 : decode prog_10_method_23_code 6 = .ok (.iload_n 1, 1) := by decide +kernel
theorem dMo_isNew_7 : decode prog_10_method_23_code 7 = .ok (.imul, 1) := by decide +kernel
theorem dMo_isNew_8 : decode prog_10_method_23_code 8 = .ok (.iload_n 2, 1) := by decide +kernel
theorem dMo_isNew_9 : decode prog_10_method_23_code 9 = .ok (.iadd, 1) := by decide +kernel
theorem dMo_isNew_10 : decode prog_10_method_23_code 10 = .ok (.laload, 1) := by decide +kernel
theorem dMo_isNew_11 : decode prog_10_method_23_code 11 = .ok (.lstore_n 3, 1) := by decide +kernel
theorem dMo_isNew_12 : decode prog_10_method_23_code 12 = .ok (.iconst 0, 1) := by decide +kernel
theorem dMo_isNew_13 : decode prog_10_method_23_code 13 = .ok (.istore 5, 2) := by decide +kernel
theorem dMo_isNew_15 : decode prog_10_method_23_code 15 = .ok (.iload 5, 2) := by decide +kernel
theorem dMo_isNew_17 : decode prog_10_method_23_code 17 = .ok (.iload_n 1, 1) := by decide +kernel
theorem dMo_isNew_18 : decode prog_10_method_23_code 18 = .ok (.if_icmp .gt 70, 3) := by decide +kernel
theorem dMo_isNew_21 : decode prog_10_method_23_code 21 = .ok (.iconst 0, 1) := by decide +kernel
theorem dMo_isNew_22 : decode prog_10_method_23_code 22 = .ok (.istore 6, 2) := by decide +kernel
theorem dMo_isNew_24 : decode prog_10_method_23_code 24 = .ok (.aload_n 0, 1) := by decide +kernel
theorem dMo_isNew_25 : decode prog_10_method_23_code 25 = .ok (.getfield 20, 3) := by decide +kernel
theorem dMo_isNew_28 : decode prog_10_method_23_code 28 = .ok (.iload 5, 2) := by decide +kernel
theorem dMo_isNew_30 : decode prog_10_method_23_code 30 = .ok (.iaload, 1) := by decide +kernel
theorem dMo_isNew_31 : decode prog_10_method_23_code 31 = .ok (.ifCond .le 51, 3) := by decide +kernel
theorem dMo_isNew_34 : decode prog_10_method_23_code 34 = .ok (.iload 6, 2) := by decide +kernel
theorem dMo_isNew_36 : decode prog_10_method_23_code 36 = .ok (.iload 5, 2) := by decide +kernel
theorem dMo_isNew_38 : decode prog_10_method_23_code 38 = .ok (.iload_n 1, 1) := by decide +kernel
theorem dMo_isNew_39 : decode prog_10_method_23_code 39 = .ok (.if_icmp .ne 7, 3) := by decide +kernel
theorem dMo_isNew_42 : decode prog_10_method_23_code 42 = .ok (.iload_n 2, 1) := by decide +kernel
theorem dMo_isNew_43 : decode prog_10_method_23_code 43 = .ok (.goto 10, 3) := by decide +kernel
theorem dMo_isNew_46 : decode prog_10_method_23_code 46 = .ok (.aload_n 0, 1) := by decide +kernel
theorem dMo_isNew_47 : decode prog_10_method_23_code 47 = .ok (.getfield 23, 3) := by decide +kernel
theorem dMo_isNew_50 : decode prog_10_method_23_code 50 = .ok (.iload 5, 2) := by decide +kernel
theorem dMo_isNew_52 : decode prog_10_method_23_code 52 = .ok (.iaload, 1) := by decide +kernel
theorem dMo_isNew_53 : decode prog_10_method_23_code 53 = .ok (.if_icmp .ge 29, 3) := by decide +kernel
theorem dMo_isNew_56 : decode prog_10_method_23_code 56 = .ok (.aload_n 0, 1) := by decide +kernel
theorem dMo_isNew_57 : decode prog_10_method_23_code 57 = .ok (.getfield 26, 3) := by decide +kernel
theorem dMo_isNew_60 : decode prog_10_method_23_code 60 = .ok (.bipush 20, 2) := by decide +kernel
theorem dMo_isNew_62 : decode prog_10_method_23_code 62 = .ok (.iload 5, 2) := by decide +kernel
theorem dMo_isNew_64 : decode prog_10_method_23_code 64 = .ok (.imul, 1) := by decide +kernel
theorem dMo_isNew_65 : decode prog_10_method_23_code 65 = .ok (.iload 6, 2) := by decide +kernel
theorem dMo_isNew_67 : decode prog_10_method_23_code 67 = .ok (.iadd, 1) := by decide +kernel
theorem dMo_isNew_68 : decode prog_10_method_23_code 68 = .ok (.laload, 1) := by decide +kernel
theorem dMo_isNew_69 : decode prog_10_method_23_code 69 = .ok (.lload_n 3, 1) := by decide +kernel
theorem dMo_isNew_70 : decode prog_10_method_23_code 70 = .ok (.lcmp, 1) := by decide +kernel
theorem dMo_isNew_71 : decode prog_10_method_23_code 71 = .ok (.ifCond .ne 5, 3) := by decide +kernel
theorem dMo_isNew_74 : decode prog_10_method_23_code 74 = .ok (.iconst 0, 1) := by decide +kernel
theorem dMo_isNew_75 : decode prog_10_method_23_code 75 = .ok (.ireturn, 1) := by decide +kernel
theorem dMo_isNew_76 : decode prog_10_method_23_code 76 = .ok (.iinc 6 1, 3) := by decide +kernel
theorem dMo_isNew_79 : decode prog_10_method_23_code 79 = .ok (.goto (-55), 3) := by decide +kernel
theorem dMo_isNew_82 : decode prog_10_method_23_code 82 = .ok (.iinc 5 1, 3) := by decide +kernel
theorem dMo_isNew_85 : decode prog_10_method_23_code 85 = .ok (.goto (-70), 3) := by decide +kernel
theorem dMo_isNew_88 : decode prog_10_method_23_code 88 = .ok (.iconst 1, 1) := by decide +kernel
theorem dMo_isNew_89 : decode prog_10_method_23_code 89 = .ok (.ireturn, 1) := by decide +kernel
theorem dMo_label_0 : decode prog_10_method_25_code 0 = .ok (.iload_n 1, 1) := by decide +kernel
theorem dMo_label_1 : decode prog_10_method_25_code 1 = .ok (.invokestatic 72, 3) := by decide +kernel
theorem dMo_label_4 : decode prog_10_method_25_code 4 = .ok (.ifCond .eq 14, 3) := by decide +kernel
theorem dMo_label_7 : decode prog_10_method_25_code 7 = .ok (.aload_n 0, 1) := by decide +kernel
theorem dMo_label_8 : decode prog_10_method_25_code 8 = .ok (.getfield 20, 3) := by decide +kernel
theorem dMo_label_11 : decode prog_10_method_25_code 11 = .ok (.iload_n 1, 1) := by decide +kernel
theorem dMo_label_12 : decode prog_10_method_25_code 12 = .ok (.iaload, 1) := by decide +kernel
theorem dMo_label_13 : decode prog_10_method_25_code 13 = .ok (.iconst 1, 1) := by decide +kernel
theorem dMo_label_14 : decode prog_10_method_25_code 14 = .ok (.isub, 1) := by decide +kernel
theorem dMo_label_15 : decode prog_10_method_25_code 15 = .ok (.goto 4, 3) := by decide +kernel
theorem dMo_label_18 : decode prog_10_method_25_code 18 = .ok (.iconst (-1), 1) := by decide +kernel
theorem dMo_label_19 : decode prog_10_method_25_code 19 = .ok (.ireturn, 1) := by decide +kernel
theorem dMo_compare_0 : decode prog_10_method_28_code 0 = .ok (.aload_n 0, 1) := by decide +kernel
theorem dMo_compare_1 : decode prog_10_method_28_code 1 = .ok (.iload_n 1, 1) := by decide +kernel
theorem dMo_compare_2 : decode prog_10_method_28_code 2 = .ok (.invokevirtual 95, 3) := by decide +kernel
theorem dMo_compare_5 : decode prog_10_method_28_code 5 = .ok (.ifCond .eq 20, 3) := by decide +kernel
theorem dMo_compare_8 : decode prog_10_method_28_code 8 = .ok (.aload_n 0, 1) := by decide +kernel
theorem dMo_compare_9 : decode prog_10_method_28_code 9 = .ok (.iload_n 2, 1) := by decide +kernel
theorem dMo_compare_10 : decode prog_10_method_28_code 10 = .ok (.invokevirtual 95, 3) := by decide +kernel
theorem dMo_compare_13 : decode prog_10_method_28_code 13 = .ok (.ifCond .eq 12, 3) := by decide +kernel
theorem dMo_compare_16 : decode prog_10_method_28_code 16 = .ok (.aload_n 0, 1) := by decide +kernel
theorem dMo_compare_17 : decode prog_10_method_28_code 17 = .ok (.iload_n 1, 1) := by decide +kernel
theorem dMo_compare_18 : decode prog_10_method_28_code 18 = .ok (.iload_n 2, 1) := by decide +kernel
theorem dMo_compare_19 : decode prog_10_method_28_code 19 = .ok (.invokevirtual 119, 3) := by decide +kernel
theorem dMo_compare_22 : decode prog_10_method_28_code 22 = .ok (.goto 5, 3) := by decide +kernel
theorem dMo_compare_25 : decode prog_10_method_28_code 25 = .ok (.bipush (-2), 2) := by decide +kernel
theorem dMo_compare_27 : decode prog_10_method_28_code 27 = .ok (.ireturn, 1) := by decide +kernel
theorem dMo_against_0 : decode prog_10_method_27_code 0 = .ok (.iconst 0, 1) := by decide +kernel
theorem dMo_against_1 : decode prog_10_method_27_code 1 = .ok (.istore_n 3, 1) := by decide +kernel
theorem dMo_against_2 : decode prog_10_method_27_code 2 = .ok (.iload_n 3, 1) := by decide +kernel
theorem dMo_against_3 : decode prog_10_method_27_code 3 = .ok (.bipush 50, 2) := by decide +kernel
theorem dMo_against_5 : decode prog_10_method_27_code 5 = .ok (.if_icmp .ge 39, 3) := by decide +kernel
theorem dMo_against_8 : decode prog_10_method_27_code 8 = .ok (.aload_n 0, 1) := by decide +kernel
theorem dMo_against_9 : decode prog_10_method_27_code 9 = .ok (.getfield 44, 3) := by decide +kernel
theorem dMo_against_12 : decode prog_10_method_27_code 12 = .ok (.iload_n 3, 1) := by decide +kernel
theorem dMo_against_13 : decode prog_10_method_27_code 13 = .ok (.iload_n 3, 1) := by decide +kernel
theorem dMo_against_14 : decode prog_10_method_27_code 14 = .ok (.ifCond .ne 7, 3) := by decide +kernel
theorem dMo_against_17 : decode prog_10_method_27_code 17 = .ok (.iconst 1, 1) := by decide +kernel
theorem dMo_against_18 : decode prog_10_method_27_code 18 = .ok (.goto 4, 3) := by decide +kernel
theorem dMo_against_21 : decode prog_10_method_27_code 21 = .ok (.iconst 0, 1) := by decide +kernel
theorem dMo_against_22 : decode prog_10_method_27_code 22 = .ok (.iastore, 1) := by decide +kernel
theorem dMo_against_23 : decode prog_10_method_27_code 23 = .ok (.aload_n 0, 1) := by decide +kernel
theorem dMo_against_24 : decode prog_10_method_27_code 24 = .ok (.getfield 47, 3) := by decide +kernel
theorem dMo_against_27 : decode prog_10_method_27_code 27 = .ok (.iload_n 3, 1) := by decide +kernel
theorem dMo_against_28 : decode prog_10_method_27_code 28 = .ok (.iload_n 3, 1) := by decide +kernel
theorem dMo_against_29 : decode prog_10_method_27_code 29 = .ok (.ifCond .ne 7, 3) := by decide +kernel
theorem dMo_against_32 : decode prog_10_method_27_code 32 = .ok (.iconst 1, 1) := by decide +kernel
theorem dMo_against_33 : decode prog_10_method_27_code 33 = .ok (.goto 4, 3) := by decide +kernel
theorem dMo_against_36 : decode prog_10_method_27_code 36 = .ok (.iconst 0, 1) := by decide +kernel
theorem dMo_against_37 : decode prog_10_method_27_code 37 = .ok (.iastore, 1) := by decide +kernel
theorem dMo_against_38 : decode prog_10_method_27_code 38 = .ok (.iinc 3 1, 3) := by decide +kernel
theorem dMo_against_41 : decode prog_10_method_27_code 41 = .ok (.goto (-39), 3) := by decide +kernel
theorem dMo_against_44 : decode prog_10_method_27_code 44 = .ok (.aload_n 0, 1) := by decide +kernel
theorem dMo_against_45 : decode prog_10_method_27_code 45 = .ok (.invokevirtual 106, 3) := by decide +kernel
theorem dMo_against_48 : decode prog_10_method_27_code 48 = .ok (.iconst 1, 1) := by decide +kernel
theorem dMo_against_49 : decode prog_10_method_27_code 49 = .ok (.iadd, 1) := by decide +kernel
theorem dMo_against_50 : decode prog_10_method_27_code 50 = .ok (.istore_n 3, 1) := by decide +kernel
theorem dMo_against_51 : decode prog_10_method_27_code 51 = .ok (.aload_n 0, 1) := by decide +kernel
theorem dMo_against_52 : decode prog_10_method_27_code 52 = .ok (.iload_n 1, 1) := by decide +kernel
theorem dMo_against_53 : decode prog_10_method_27_code 53 = .ok (.invokevirtual 109, 3) := by decide +kernel
theorem dMo_against_56 : decode prog_10_method_27_code 56 = .ok (.iload_n 3, 1) := by decide +kernel
theorem dMo_against_57 : decode prog_10_method_27_code 57 = .ok (.iadd, 1) := by decide +kernel
theorem dMo_against_58 : decode prog_10_method_27_code 58 = .ok (.istore 4, 2) := by decide +kernel
theorem dMo_against_60 : decode prog_10_method_27_code 60 = .ok (.aload_n 0, 1) := by decide +kernel
theorem dMo_against_61 : decode prog_10_method_27_code 61 = .ok (.iload_n 2, 1) := by decide +kernel
theorem dMo_against_62 : decode prog_10_method_27_code 62 = .ok (.invokevirtual 109, 3) := by decide +kernel
theorem dMo_against_65 : decode prog_10_method_27_code 65 = .ok (.iload_n 3, 1) := by decide +kernel
theorem dMo_against_66 : decode prog_10_method_27_code 66 = .ok (.iadd, 1) := by decide +kernel
theorem dMo_against_67 : decode prog_10_method_27_code 67 = .ok (.istore 5, 2) := by decide +kernel
theorem dMo_against_69 : decode prog_10_method_27_code 69 = .ok (.aload_n 0, 1) := by decide +kernel
theorem dMo_against_70 : decode prog_10_method_27_code 70 = .ok (.iconst 1, 1) := by decide +kernel
theorem dMo_against_71 : decode prog_10_method_27_code 71 = .ok (.aload_n 0, 1) := by decide +kernel
theorem dMo_against_72 : decode prog_10_method_27_code 72 = .ok (.iload_n 1, 1) := by decide +kernel
theorem dMo_against_73 : decode prog_10_method_27_code 73 = .ok (.invokevirtual 112, 3) := by decide +kernel
theorem dMo_against_76 : decode prog_10_method_27_code 76 = .ok (.invokevirtual 115, 3) := by decide +kernel
theorem dMo_against_79 : decode prog_10_method_27_code 79 = .ok (.aload_n 0, 1) := by decide +kernel
theorem dMo_against_80 : decode prog_10_method_27_code 80 = .ok (.iconst 0, 1) := by decide +kernel
theorem dMo_against_81 : decode prog_10_method_27_code 81 = .ok (.aload_n 0, 1) := by decide +kernel
theorem dMo_against_82 : decode prog_10_method_27_code 82 = .ok (.iload_n 2, 1) := by decide +kernel
theorem dMo_against_83 : decode prog_10_method_27_code 83 = .ok (.invokevirtual 112, 3) := by decide +kernel
theorem dMo_against_86 : decode prog_10_method_27_code 86 = .ok (.invokevirtual 115, 3) := by decide +kernel
theorem dMo_against_89 : decode prog_10_method_27_code 89 = .ok (.aload_n 0, 1) := by decide +kernel
theorem dMo_against_90 : decode prog_10_method_27_code 90 = .ok (.invokevirtual 66, 3) := by decide +kernel
theorem dMo_against_93 : decode prog_10_method_27_code 93 = .ok (.iconst 0, 1) := by decide +kernel
theorem dMo_against_94 : decode prog_10_method_27_code 94 = .ok (.istore 6, 2) := by decide +kernel
theorem dMo_against_96 : decode prog_10_method_27_code 96 = .ok (.iload 6, 2) := by decide +kernel
theorem dMo_against_98 : decode prog_10_method_27_code 98 = .ok (.aload_n 0, 1) := by decide +kernel
theorem dMo_against_99 : decode prog_10_method_27_code 99 = .ok (.getfield 57, 3) := by decide +kernel
theorem dMo_against_102 : decode prog_10_method_27_code 102 = .ok (.if_icmp .ge 61, 3) := by decide +kernel
theorem dMo_against_105 : decode prog_10_method_27_code 105 = .ok (.aload_n 0, 1) := by decide +kernel
theorem dMo_against_106 : decode prog_10_method_27_code 106 = .ok (.iconst 1, 1) := by decide +kernel
theorem dMo_against_107 : decode prog_10_method_27_code 107 = .ok (.aload_n 0, 1) := by decide +kernel
theorem dMo_against_108 : decode prog_10_method_27_code 108 = .ok (.iload_n 1, 1) := by decide +kernel
theorem dMo_against_109 : decode prog_10_method_27_code 109 = .ok (.aload_n 0, 1) := by decide +kernel
theorem dMo_against_110 : decode prog_10_method_27_code 110 = .ok (.getfield 13, 3) := by decide +kernel
theorem dMo_against_113 : decode prog_10_method_27_code 113 = .ok (.iload 6, 2) := by decide +kernel
theorem dMo_against_115 : decode prog_10_method_27_code 115 = .ok (.laload, 1) := by decide +kernel
theorem dMo_against_116 : decode prog_10_method_27_code 116 = .ok (.invokevirtual 98, 3) := by decide +kernel
theorem dMo_against_119 : decode prog_10_method_27_code 119 = .ok (.iconst 1, 1) := by decide +kernel
theorem dMo_against_120 : decode prog_10_method_27_code 120 = .ok (.iadd, 1) := by decide +kernel
theorem dMo_against_121 : decode prog_10_method_27_code 121 = .ok (.invokevirtual 115, 3) := by decide +kernel
theorem dMo_against_124 : decode prog_10_method_27_code 124 = .ok (.aload_n 0, 1) := by decide +kernel
theorem dMo_against_125 : decode prog_10_method_27_code 125 = .ok (.iconst 1, 1) := by decide +kernel
theorem dMo_against_126 : decode prog_10_method_27_code 126 = .ok (.iload 5, 2) := by decide +kernel
theorem dMo_against_128 : decode prog_10_method_27_code 128 = .ok (.invokevirtual 115, 3) := by decide +kernel
theorem dMo_against_131 : decode prog_10_method_27_code 131 = .ok (.aload_n 0, 1) := by decide +kernel
theorem dMo_against_132 : decode prog_10_method_27_code 132 = .ok (.iconst 0, 1) := by decide +kernel
theorem dMo_against_133 : decode prog_10_method_27_code 133 = .ok (.aload_n 0, 1) := by decide +kernel
theorem dMo_against_134 : decode prog_10_method_27_code 134 = .ok (.iload_n 2, 1) := by decide +kernel
theorem dMo_against_135 : decode prog_10_method_27_code 135 = .ok (.aload_n 0, 1) := by decide +kernel
theorem dMo_against_136 : decode prog_10_method_27_code 136 = .ok (.getfield 13, 3) := by decide +kernel
theorem dMo_against_139 : decode prog_10_method_27_code 139 = .ok (.iload 6, 2) := by decide +kernel
theorem dMo_against_141 : decode prog_10_method_27_code 141 = .ok (.laload, 1) := by decide +kernel
theorem dMo_against_142 : decode prog_10_method_27_code 142 = .ok (.invokevirtual 98, 3) := by decide +kernel
theorem dMo_against_145 : decode prog_10_method_27_code 145 = .ok (.iconst 1, 1) := by decide +kernel
theorem dMo_against_146 : decode prog_10_method_27_code 146 = .ok (.iadd, 1) := by decide +kernel
theorem dMo_against_147 : decode prog_10_method_27_code 147 = .ok (.invokevirtual 115, 3) := by decide +kernel
theorem dMo_against_150 : decode prog_10_method_27_code 150 = .ok (.aload_n 0, 1) := by decide +kernel
theorem dMo_against_151 : decode prog_10_method_27_code 151 = .ok (.iconst 0, 1) := by decide +kernel
theorem dMo_against_152 : decode prog_10_method_27_code 152 = .ok (.iload 4, 2) := by decide +kernel
theorem dMo_against_154 : decode prog_10_method_27_code 154 = .ok (.invokevirtual 115, 3) := by decide +kernel
theorem dMo_against_157 : decode prog_10_method_27_code 157 = .ok (.iinc 6 1, 3) := by decide +kernel
theorem dMo_against_160 : decode prog_10_method_27_code 160 = .ok (.goto (-64), 3) := by decide +kernel
theorem dMo_against_163 : decode prog_10_method_27_code 163 = .ok (.bipush 49, 2) := by decide +kernel
theorem dMo_against_165 : decode prog_10_method_27_code 165 = .ok (.istore 6, 2) := by decide +kernel
theorem dMo_against_167 : decode prog_10_method_27_code 167 = .ok (.iload 6, 2) := by decide +kernel
theorem dMo_against_169 : decode prog_10_method_27_code 169 = .ok (.ifCond .lt 49, 3) := by decide +kernel
theorem dMo_against_172 : decode prog_10_method_27_code 172 = .ok (.aload_n 0, 1) := by decide +kernel
theorem dMo_against_173 : decode prog_10_method_27_code 173 = .ok (.getfield 44, 3) := by decide +kernel
theorem dMo_against_176 : decode prog_10_method_27_code 176 = .ok (.iload 6, 2) := by decide +kernel
theorem dMo_against_178 : decode prog_10_method_27_code 178 = .ok (.iaload, 1) := by decide +kernel
theorem dMo_against_179 : decode prog_10_method_27_code 179 = .ok (.aload_n 0, 1) := by decide +kernel
theorem dMo_against_180 : decode prog_10_method_27_code 180 = .ok (.getfield 47, 3) := by decide +kernel
theorem dMo_against_183 : decode prog_10_method_27_code 183 = .ok (.iload 6, 2) := by decide +kernel
theorem dMo_against_185 : decode prog_10_method_27_code 185 = .ok (.iaload, 1) := by decide +kernel
theorem dMo_against_186 : decode prog_10_method_27_code 186 = .ok (.if_icmp .eq 26, 3) := by decide +kernel
theorem dMo_against_189 : decode prog_10_method_27_code 189 = .ok (.aload_n 0, 1) := by decide +kernel
theorem dMo_against_190 : decode prog_10_method_27_code 190 = .ok (.getfield 44, 3) := by decide +kernel
theorem dMo_against_193 : decode prog_10_method_27_code 193 = .ok (.iload 6, 2) := by decide +kernel
theorem dMo_against_195 : decode prog_10_method_27_code 195 = .ok (.iaload, 1) := by decide +kernel
theorem dMo_against_196 : decode prog_10_method_27_code 196 = .ok (.aload_n 0, 1) := by decide +kernel
theorem dMo_against_197 : decode prog_10_method_27_code 197 = .ok (.getfield 47, 3) := by decide +kernel
theorem dMo_against_200 : decode prog_10_method_27_code 200 = .ok (.iload 6, 2) := by decide +kernel
theorem dMo_against_202 : decode prog_10_method_27_code 202 = .ok (.iaload, 1) := by decide +kernel
theorem dMo_against_203 : decode prog_10_method_27_code 203 = .ok (.if_icmp .le 7, 3) := by decide +kernel
theorem dMo_against_206 : decode prog_10_method_27_code 206 = .ok (.iconst 1, 1) := by decide +kernel
theorem dMo_against_207 : decode prog_10_method_27_code 207 = .ok (.goto 4, 3) := by decide +kernel
theorem dMo_against_210 : decode prog_10_method_27_code 210 = .ok (.iconst (-1), 1) := by decide +kernel
theorem dMo_against_211 : decode prog_10_method_27_code 211 = .ok (.ireturn, 1) := by decide +kernel
theorem dMo_against_212 : decode prog_10_method_27_code 212 = .ok (.iinc 6 (-1), 3) := by decide +kernel
theorem dMo_against_215 : decode prog_10_method_27_code 215 = .ok (.goto (-48), 3) := by decide +kernel
theorem dMo_against_218 : decode prog_10_method_27_code 218 = .ok (.iconst 0, 1) := by decide +kernel
theorem dMo_against_219 : decode prog_10_method_27_code 219 = .ok (.ireturn, 1) := by decide +kernel
theorem dMo_times_0 : decode prog_10_method_26_code 0 = .ok (.iconst 0, 1) := by decide +kernel
theorem dMo_times_1 : decode prog_10_method_26_code 1 = .ok (.istore_n 3, 1) := by decide +kernel
theorem dMo_times_2 : decode prog_10_method_26_code 2 = .ok (.iconst 0, 1) := by decide +kernel
theorem dMo_times_3 : decode prog_10_method_26_code 3 = .ok (.istore 4, 2) := by decide +kernel
theorem dMo_times_5 : decode prog_10_method_26_code 5 = .ok (.iload 4, 2) := by decide +kernel
theorem dMo_times_7 : decode prog_10_method_26_code 7 = .ok (.bipush 50, 2) := by decide +kernel
theorem dMo_times_9 : decode prog_10_method_26_code 9 = .ok (.if_icmp .ge 76, 3) := by decide +kernel
theorem dMo_times_12 : decode prog_10_method_26_code 12 = .ok (.iload_n 1, 1) := by decide +kernel
theorem dMo_times_13 : decode prog_10_method_26_code 13 = .ok (.ifCond .eq 13, 3) := by decide +kernel
theorem dMo_times_16 : decode prog_10_method_26_code 16 = .ok (.aload_n 0, 1) := by decide +kernel
theorem dMo_times_17 : decode prog_10_method_26_code 17 = .ok (.getfield 44, 3) := by decide +kernel
theorem dMo_times_20 : decode prog_10_method_26_code 20 = .ok (.iload 4, 2) := by decide +kernel
theorem dMo_times_22 : decode prog_10_method_26_code 22 = .ok (.iaload, 1) := by decide +kernel
theorem dMo_times_23 : decode prog_10_method_26_code 23 = .ok (.goto 10, 3) := by decide +kernel
theorem dMo_times_26 : decode prog_10_method_26_code 26 = .ok (.aload_n 0, 1) := by decide +kernel
theorem dMo_times_27 : decode prog_10_method_26_code 27 = .ok (.getfield 47, 3) := by decide +kernel
theorem dMo_times_30 : decode prog_10_method_26_code 30 = .ok (.iload 4, 2) := by decide +kernel
theorem dMo_times_32 : decode prog_10_method_26_code 32 = .ok (.iaload, 1) := by decide +kernel
theorem dMo_times_33 : decode prog_10_method_26_code 33 = .ok (.iload_n 2, 1) := by decide +kernel
theorem dMo_times_34 : decode prog_10_method_26_code 34 = .ok (.imul, 1) := by decide +kernel
theorem dMo_times_35 : decode prog_10_method_26_code 35 = .ok (.iload_n 3, 1) := by decide +kernel
theorem dMo_times_36 : decode prog_10_method_26_code 36 = .ok (.iadd, 1) := by decide +kernel
theorem dMo_times_37 : decode prog_10_method_26_code 37 = .ok (.istore 5, 2) := by decide +kernel
theorem dMo_times_39 : decode prog_10_method_26_code 39 = .ok (.iload 5, 2) := by decide +kernel
theorem dMo_times_41 : decode prog_10_method_26_code 41 = .ok (.sipush 1000, 3) := by decide +kernel
theorem dMo_times_44 : decode prog_10_method_26_code 44 = .ok (.idiv, 1) := by decide +kernel
theorem dMo_times_45 : decode prog_10_method_26_code 45 = .ok (.istore_n 3, 1) := by decide +kernel
theorem dMo_times_46 : decode prog_10_method_26_code 46 = .ok (.iload_n 1, 1) := by decide +kernel
theorem dMo_times_47 : decode prog_10_method_26_code 47 = .ok (.ifCond .eq 19, 3) := by decide +kernel
theorem dMo_times_50 : decode prog_10_method_26_code 50 = .ok (.aload_n 0, 1) := by decide +kernel
theorem dMo_times_51 : decode prog_10_method_26_code 51 = .ok (.getfield 44, 3) := by decide +kernel
theorem dMo_times_54 : decode prog_10_method_26_code 54 = .ok (.iload 4, 2) := by decide +kernel
theorem dMo_times_56 : decode prog_10_method_26_code 56 = .ok (.iload 5, 2) := by decide +kernel
theorem dMo_times_58 : decode prog_10_method_26_code 58 = .ok (.sipush 1000, 3) := by decide +kernel
theorem dMo_times_61 : decode prog_10_method_26_code 61 = .ok (.irem, 1) := by decide +kernel
theorem dMo_times_62 : decode prog_10_method_26_code 62 = .ok (.iastore, 1) := by decide +kernel
theorem dMo_times_63 : decode prog_10_method_26_code 63 = .ok (.goto 16, 3) := by decide +kernel
theorem dMo_times_66 : decode prog_10_method_26_code 66 = .ok (.aload_n 0, 1) := by decide +kernel
theorem dMo_times_67 : decode prog_10_method_26_code 67 = .ok (.getfield 47, 3) := by decide +kernel
theorem dMo_times_70 : decode prog_10_method_26_code 70 = .ok (.iload 4, 2) := by decide +kernel
theorem dMo_times_72 : decode prog_10_method_26_code 72 = .ok (.iload 5, 2) := by decide +kernel
theorem dMo_times_74 : decode prog_10_method_26_code 74 = .ok (.sipush 1000, 3) := by decide +kernel
theorem dMo_times_77 : decode prog_10_method_26_code 77 = .ok (.irem, 1) := by decide +kernel
theorem dMo_times_78 : decode prog_10_method_26_code 78 = .ok (.iastore, 1) := by decide +kernel
theorem dMo_times_79 : decode prog_10_method_26_code 79 = .ok (.iinc 4 1, 3) := by decide +kernel
theorem dMo_times_82 : decode prog_10_method_26_code 82 = .ok (.goto (-77), 3) := by decide +kernel
theorem dMo_times_85 : decode prog_10_method_26_code 85 = .ok (.return_, 1) := by decide +kernel
theorem dMo_order_0 : decode prog_10_method_30_code 0 = .ok (.iconst 0, 1) := by decide +kernel
theorem dMo_order_1 : decode prog_10_method_30_code 1 = .ok (.istore_n 2, 1) := by decide +kernel
theorem dMo_order_2 : decode prog_10_method_30_code 2 = .ok (.iload_n 2, 1) := by decide +kernel
theorem dMo_order_3 : decode prog_10_method_30_code 3 = .ok (.aload_n 0, 1) := by decide +kernel
theorem dMo_order_4 : decode prog_10_method_30_code 4 = .ok (.getfield 50, 3) := by decide +kernel
theorem dMo_order_7 : decode prog_10_method_30_code 7 = .ok (.if_icmp .ge 20, 3) := by decide +kernel
theorem dMo_order_10 : decode prog_10_method_30_code 10 = .ok (.aload_n 0, 1) := by decide +kernel
theorem dMo_order_11 : decode prog_10_method_30_code 11 = .ok (.iload_n 2, 1) := by decide +kernel
theorem dMo_order_12 : decode prog_10_method_30_code 12 = .ok (.invokevirtual 123, 3) := by decide +kernel
theorem dMo_order_15 : decode prog_10_method_30_code 15 = .ok (.iload_n 1, 1) := by decide +kernel
theorem dMo_order_16 : decode prog_10_method_30_code 16 = .ok (.if_icmp .ne 5, 3) := by decide +kernel
theorem dMo_order_19 : decode prog_10_method_30_code 19 = .ok (.iload_n 2, 1) := by decide +kernel
theorem dMo_order_20 : decode prog_10_method_30_code 20 = .ok (.ireturn, 1) := by decide +kernel
theorem dMo_order_21 : decode prog_10_method_30_code 21 = .ok (.iinc 2 1, 3) := by decide +kernel
theorem dMo_order_24 : decode prog_10_method_30_code 24 = .ok (.goto (-22), 3) := by decide +kernel
theorem dMo_order_27 : decode prog_10_method_30_code 27 = .ok (.iconst (-1), 1) := by decide +kernel
theorem dMo_order_28 : decode prog_10_method_30_code 28 = .ok (.ireturn, 1) := by decide +kernel
theorem dMo_place_0 : decode prog_10_method_29_code 0 = .ok (.iconst 0, 1) := by decide +kernel
theorem dMo_place_1 : decode prog_10_method_29_code 1 = .ok (.istore_n 2, 1) := by decide +kernel
theorem dMo_place_2 : decode prog_10_method_29_code 2 = .ok (.iconst 0, 1) := by decide +kernel
theorem dMo_place_3 : decode prog_10_method_29_code 3 = .ok (.istore_n 3, 1) := by decide +kernel
theorem dMo_place_4 : decode prog_10_method_29_code 4 = .ok (.iload_n 3, 1) := by decide +kernel
theorem dMo_place_5 : decode prog_10_method_29_code 5 = .ok (.aload_n 0, 1) := by decide +kernel
theorem dMo_place_6 : decode prog_10_method_29_code 6 = .ok (.getfield 50, 3) := by decide +kernel
theorem dMo_place_9 : decode prog_10_method_29_code 9 = .ok (.if_icmp .ge 40, 3) := by decide +kernel
theorem dMo_place_12 : decode prog_10_method_29_code 12 = .ok (.aload_n 0, 1) := by decide +kernel
theorem dMo_place_13 : decode prog_10_method_29_code 13 = .ok (.iload_n 3, 1) := by decide +kernel
theorem dMo_place_14 : decode prog_10_method_29_code 14 = .ok (.iload_n 1, 1) := by decide +kernel
theorem dMo_place_15 : decode prog_10_method_29_code 15 = .ok (.invokevirtual 119, 3) := by decide +kernel
theorem dMo_place_18 : decode prog_10_method_29_code 18 = .ok (.istore 4, 2) := by decide +kernel
theorem dMo_place_20 : decode prog_10_method_29_code 20 = .ok (.iload 4, 2) := by decide +kernel
theorem dMo_place_22 : decode prog_10_method_29_code 22 = .ok (.ifCond .gt 13, 3) := by decide +kernel
theorem dMo_place_25 : decode prog_10_method_29_code 25 = .ok (.iload 4, 2) := by decide +kernel
theorem dMo_place_27 : decode prog_10_method_29_code 27 = .ok (.ifCond .ne 14, 3) := by decide +kernel
theorem dMo_place_30 : decode prog_10_method_29_code 30 = .ok (.iload_n 3, 1) := by decide +kernel
theorem dMo_place_31 : decode prog_10_method_29_code 31 = .ok (.iload_n 1, 1) := by decide +kernel
theorem dMo_place_32 : decode prog_10_method_29_code 32 = .ok (.if_icmp .ge 9, 3) := by decide +kernel
theorem dMo_place_35 : decode prog_10_method_29_code 35 = .ok (.iload_n 2, 1) := by decide +kernel
theorem dMo_place_36 : decode prog_10_method_29_code 36 = .ok (.iconst 1, 1) := by decide +kernel
theorem dMo_place_37 : decode prog_10_method_29_code 37 = .ok (.iadd, 1) := by decide +kernel
theorem dMo_place_38 : decode prog_10_method_29_code 38 = .ok (.goto 4, 3) := by decide +kernel
theorem dMo_place_41 : decode prog_10_method_29_code 41 = .ok (.iload_n 2, 1) := by decide +kernel
theorem dMo_place_42 : decode prog_10_method_29_code 42 = .ok (.istore_n 2, 1) := by decide +kernel
theorem dMo_place_43 : decode prog_10_method_29_code 43 = .ok (.iinc 3 1, 3) := by decide +kernel
theorem dMo_place_46 : decode prog_10_method_29_code 46 = .ok (.goto (-42), 3) := by decide +kernel
theorem dMo_place_49 : decode prog_10_method_29_code 49 = .ok (.iload_n 2, 1) := by decide +kernel
theorem dMo_place_50 : decode prog_10_method_29_code 50 = .ok (.ireturn, 1) := by decide +kernel
theorem dMo_classify_0 : decode prog_10_method_31_code 0 = .ok (.aload_n 0, 1) := by decide +kernel
theorem dMo_classify_1 : decode prog_10_method_31_code 1 = .ok (.invokevirtual 76, 3) := by decide +kernel
theorem dMo_classify_4 : decode prog_10_method_31_code 4 = .ok (.ifCond .ne 7, 3) := by decide +kernel
theorem dMo_classify_7 : decode prog_10_method_31_code 7 = .ok (.iconst (-1), 1) := by decide +kernel
theorem dMo_classify_8 : decode prog_10_method_31_code 8 = .ok (.goto 8, 3) := by decide +kernel
theorem dMo_classify_11 : decode prog_10_method_31_code 11 = .ok (.aload_n 0, 1) := by decide +kernel
theorem dMo_classify_12 : decode prog_10_method_31_code 12 = .ok (.iconst 0, 1) := by decide +kernel
theorem dMo_classify_13 : decode prog_10_method_31_code 13 = .ok (.invokevirtual 126, 3) := by decide +kernel
theorem dMo_classify_16 : decode prog_10_method_31_code 16 = .ok (.ireturn, 1) := by decide +kernel
end
section
/-! THE MACHINE OF WORLDS, SEEN FROM ABOVE. A world is a list of cells; a reference is a number: 0 the script, i + 1 the cell i, which lies at the
address b + i (every cell since the law's start, in the order of its making). zw_Z: from this point of a method's code, with these locals, this stack and
this world, the machine comes to the method's end with Qf. One rule an instruction (zr_..), one for a call (zr_inv..). -/
section ZW
abbrev zw_C : Type := (Nat × vp_A) ⊕ (Nat × List Value)
abbrev zw_W : Type := List zw_C
abbrev zw_G : Type := Launch × va_G × (Nat → ClassId) × Nat × Nat
abbrev zw_Qt : Type := List Frame → Array Value → State → State → Prop
def zw_ad (G : zw_G) (i : Nat) : Nat := match i with
  | 0 => G.2.2.2.1
  | j + 1 => G.2.2.2.2 + j
def zw_v (G : zw_G) (v : Value) : Value := match v with
  | .ref i => .ref (zw_ad G i)
  | v => v
def zw_a (G : zw_G) (a : vp_A) : vp_A := match a with
  | (n, .inr (.inr (.inr (.inr f)))) => (n, .inr (.inr (.inr (.inr (fun j => (f j).map (zw_ad G))))))
  | a => a
def zw_e (G : zw_G) (x : zw_C) : va_E := match x with
  | .inl (k, a) => .inl (G.2.2.1 k, zw_a G a)
  | .inr (ci, fs) => .inr (ci, fs.map (zw_v G))
def zw_w (G : zw_G) (w : zw_W) : va_W := w.mapIdx (fun i x => (G.2.2.2.2 + i, zw_e G x))
theorem zw_at {G : zw_G} {w : zw_W} {i : Nat} {x : zw_C} (h : w[i]? = some x) : (zw_w G w)[i]? = some (G.2.2.2.2 + i, zw_e G x) := by
  simp [zw_w, h]
theorem zw_len {G : zw_G} {w : zw_W} : (zw_w G w).length = w.length := by simp [zw_w]
theorem zw_get {G : zw_G} {w : zw_W} {i : Nat} {q : Nat × va_E} (h : (zw_w G w)[i]? = some q) : ∃ x, w[i]? = some x ∧ q = (G.2.2.2.2 + i, zw_e G x) := by
  simp only [zw_w, List.getElem?_mapIdx, Option.map_eq_some_iff] at h
  obtain ⟨x, h1, h2⟩ := h
  exact ⟨x, h1, h2.symm⟩
theorem zw_set {G : zw_G} {w : zw_W} {i : Nat} {x : zw_C} : zw_w G (w.set i x) = (zw_w G w).set i (G.2.2.2.2 + i, zw_e G x) := by
  apply List.ext_getElem?
  intro j
  simp only [zw_w, List.getElem?_mapIdx, List.getElem?_set, List.length_mapIdx]
  by_cases h : i = j
  · subst h
    by_cases h2 : i < w.length
    · simp [h2]
    · simp [h2]
  · simp [h]
theorem zw_app {G : zw_G} {w : zw_W} {x : zw_C} : zw_w G (w ++ [x]) = zw_w G w ++ [(G.2.2.2.2 + w.length, zw_e G x)] := by
  simp [zw_w, List.mapIdx_append]
theorem zw_D {G : zw_G} {w : zw_W} : va_D (fun q => G.2.2.2.2 ≤ q) (zw_w G w) := by
  refine ⟨fun i j p q hi hj h => ?_, fun k q hk => ?_⟩
  · obtain ⟨x, -, rfl⟩ := zw_get hi
    obtain ⟨y, -, rfl⟩ := zw_get hj
    simp only at h
    omega
  · obtain ⟨x, -, rfl⟩ := zw_get hk
    exact Nat.le_add_right _ _
theorem zw_cat {G : zw_G} (v : Value) : (zw_v G v).category = v.category := by
  cases v <;> rfl
/-- which words stay true however far the tables have warmed -/
def zw_g (w : Cond) : Bool := match w with
  | .arrayClass _ => true
  | .fieldLinkNest _ _ _ _ _ _ => true
  | .methodLinkNest _ _ _ _ => true
  | .arrayOver (.object _) => true
  | .arrayOver (.array _) => true
  | .castable _ _ => true
  | w => w.onTables && w.keeps
theorem zw_aoa {t : FieldType} {A A' : Array Value} {u U : State} (hvm : u.vm.Alike U.vm) (h : (Cond.arrayOver (.array t)).before A u = true) : (Cond.arrayOver (.array t)).before A' U = true := by
  obtain ⟨comp, c, k, h1, h2, h3, h4, h5⟩ := arrayOverA_spec h
  obtain ⟨k', hk', he⟩ := hvm.2.2 _ _ h3
  have hi : (U.vm.classes.findIdx? fun (x : Class) => match x.kind with | .array component _ => component == comp | _ => false) = some c := by
    have a := va_idx_bare U.vm comp
    have b := va_idx_bare u.vm comp
    have e : U.vm.bare = u.vm.bare := by first | exact hvm.bare_eq | exact hvm.bare_eq.symm
    rw [e] at a
    exact (a.symm.trans b).trans h2
  have hkind : k'.kind = .array comp (.array t) := by rw [he]; exact h4
  have f1 : U.vm.findClass (FieldType.array t).toString = some comp := by rw [hvm.findClass]; exact h1
  have f2 : U.vm.findClass ("[" ++ (FieldType.array t).toString) = some c := by rw [hvm.findClass]; exact h5
  unfold Cond.before Cond.holds
  simp only [Cond.value]
  rw [f1, Option.bind_some]
  refine (congrArg (fun o : Option Nat => (o.bind (fun c => (U.vm.classes[c]?).map fun (k : Class) => match k.kind with | .array _ ty => decide (ty = FieldType.array t) && decide (U.vm.findClass ("[" ++ (FieldType.array t).toString) = some c) | _ => false) == some true)) hi).trans ?_
  simp [hk', hkind, f2]
theorem zw_warm {w : Cond} {a a' : Array Value} {s U : State} (hg : zw_g w = true) (hW : s.WarmedH U.vm) (h : w.before a s = true) : w.before a' U = true := by
  unfold zw_g at hg
  split at hg
  · exact word_at hW (Or.inr ⟨_, rfl⟩) h
  · exact va_Nw.use rfl (va_Nw.warmF hW (va_Nw.of rfl h))
  · exact va_Nw.use rfl (va_Nw.warmM hW (va_Nw.of rfl h))
  · exact va_AO.use (va_AO.moved hW.alike (va_AO.of h))
  · exact zw_aoa hW.alike h
  · exact va_Nw.use rfl (va_Nw.warmC hW (va_Nw.of rfl h))
  · exact word_at hW (Or.inl hg) h
def zw_T : List Cond := lw_tbl.filter zw_g
theorem zw_inT {w : Cond} (h : w ∈ lw_tbl) (hg : zw_g w = true) : w ∈ zw_T := List.mem_filter.mpr ⟨h, hg⟩
/-- locals -/
def zw_l (G : zw_G) (ls : List (Option Value)) : List (Nat × Value) := (List.range ls.length).filterMap (fun i => (ls[i]?.getD none).map (fun v => (i, zw_v G v)))
theorem zw_l_mem {G : zw_G} {ls : List (Option Value)} {q : Nat × Value} : q ∈ zw_l G ls ↔ ∃ v, ls[q.1]? = some (some v) ∧ q.2 = zw_v G v := by
  unfold zw_l
  rw [List.mem_filterMap]
  constructor
  · rintro ⟨i, -, h⟩
    cases hx : ls[i]? with
    | none => rw [hx] at h; cases h
    | some o =>
      cases o with
      | none => rw [hx] at h; cases h
      | some v =>
        rw [hx] at h
        cases h
        exact ⟨v, hx, rfl⟩
  · rintro ⟨v, h1, h2⟩
    refine ⟨q.1, List.mem_range.mpr (List.getElem?_eq_some_iff.mp h1).1, ?_⟩
    rw [h1]
    show some (q.1, zw_v G v) = some q
    rw [← h2]
def zw_L (G : zw_G) (n : Nat) (ls : List (Option Value)) (ls' : Array Slot) : Prop := lv_has ls' n (zw_l G ls)
theorem zw_L.at {G : zw_G} {n i : Nat} {ls : List (Option Value)} {ls' : Array Slot} {v : Value} (h : zw_L G n ls ls') (hi : ls[i]? = some (some v)) : ls'[i]? = some (.val (zw_v G v)) := h.2.2 (i, zw_v G v) (zw_l_mem.mpr ⟨v, hi, rfl⟩)
theorem zw_L.less {G : zw_G} {n : Nat} {ls l2 : List (Option Value)} {ls' : Array Slot} (h : zw_L G n ls ls') (hl : ∀ (i : Nat) (v : Value), l2[i]? = some (some v) → ls[i]? = some (some v)) : zw_L G n l2 ls' :=
  ⟨h.1, h.2.1, fun q hq => by
    obtain ⟨v, h1, h2⟩ := zw_l_mem.mp hq
    exact h.2.2 q (zw_l_mem.mpr ⟨v, hl _ _ h1, h2⟩)⟩
def zw_cut (ls : List (Option Value)) (i : Nat) : List (Option Value) := match i with
  | 0 => ls
  | j + 1 => match ls[j]? with
    | some (some u) => if u.category = 2 then ls.set j none else ls
    | _ => ls
def zw_st (ls : List (Option Value)) (i : Nat) (v : Value) : List (Option Value) := (zw_cut ls i).set i (some v)
def zw_st2 (ls : List (Option Value)) (i : Nat) (v : Value) : List (Option Value) := ((zw_cut ls i).set i (some v)).set (i + 1) none
theorem zw_cut_at {ls : List (Option Value)} {i j : Nat} {u : Value} (h : (zw_cut ls i)[j]? = some (some u)) : ls[j]? = some (some u) ∧ ¬ (j + 1 = i ∧ u.category = 2) := by
  cases i with
  | zero => exact ⟨h, fun q => by omega⟩
  | succ k =>
    unfold zw_cut at h
    simp only at h
    split at h
    · rename_i u' hu
      split at h
      · rename_i hc
        rw [List.getElem?_set] at h
        by_cases hk : k = j
        · subst hk
          by_cases hl : k < ls.length
          · simp [hl] at h
          · simp [hl] at h
        · simp only [hk, if_false] at h
          exact ⟨h, fun q => hk (by omega)⟩
      · rename_i hc
        refine ⟨h, fun q => ?_⟩
        have hk : k = j := by omega
        subst hk
        rw [hu] at h
        cases h
        exact hc q.2
    · rename_i hn
      refine ⟨h, fun q => ?_⟩
      have hk : k = j := by omega
      subst hk
      exact hn u h
theorem zw_L.st {G : zw_G} {n i : Nat} {ls : List (Option Value)} {l2 : Array Slot} {v : Value} (h : lv_has l2 n ((i, zw_v G v) :: (zw_l G ls).filter (fun q => !(q.1 == i) && !(q.1 + 1 == i && q.2.category == 2)))) : zw_L G n (zw_st ls i v) l2 := by
  refine ⟨h.1, h.2.1, fun q hq => h.2.2 q ?_⟩
  obtain ⟨u, h1, h2⟩ := zw_l_mem.mp hq
  unfold zw_st at h1
  rw [List.getElem?_set] at h1
  by_cases hi : i = q.1
  · rw [if_pos hi] at h1
    split at h1
    · cases h1
      rw [hi, ← h2]
      exact List.mem_cons_self
    · cases h1
  · rw [if_neg hi] at h1
    obtain ⟨a1, a2⟩ := zw_cut_at h1
    refine List.mem_cons_of_mem _ (List.mem_filter.mpr ⟨zw_l_mem.mpr ⟨u, a1, h2⟩, ?_⟩)
    rw [h2, zw_cat]
    have e1 : (q.1 == i) = false := by simpa using fun e => hi e.symm
    rw [e1]
    by_cases e2 : q.1 + 1 = i
    · have e3 : ¬ u.category = 2 := fun e => a2 ⟨e2, e⟩
      simp [e3]
    · simp [e2]
theorem zw_L.st2 {G : zw_G} {n i : Nat} {ls : List (Option Value)} {l2 : Array Slot} {v : Value} (h : lv_has l2 n ((i, zw_v G v) :: (zw_l G ls).filter (fun q => !(q.1 == i) && (!(q.1 == i + 1) && !(q.1 + 1 == i && q.2.category == 2))))) : zw_L G n (zw_st2 ls i v) l2 := by
  refine ⟨h.1, h.2.1, fun q hq => h.2.2 q ?_⟩
  obtain ⟨u, h1, h2⟩ := zw_l_mem.mp hq
  unfold zw_st2 at h1
  rw [List.getElem?_set] at h1
  by_cases hj : i + 1 = q.1
  · rw [if_pos hj] at h1
    split at h1 <;> cases h1
  rw [if_neg hj, List.getElem?_set] at h1
  by_cases hi : i = q.1
  · rw [if_pos hi] at h1
    split at h1
    · cases h1
      rw [hi, ← h2]
      exact List.mem_cons_self
    · cases h1
  · rw [if_neg hi] at h1
    obtain ⟨a1, a2⟩ := zw_cut_at h1
    refine List.mem_cons_of_mem _ (List.mem_filter.mpr ⟨zw_l_mem.mpr ⟨u, a1, h2⟩, ?_⟩)
    rw [h2, zw_cat]
    have e1 : (q.1 == i) = false := by simpa using fun e => hi e.symm
    have e4 : (q.1 == i + 1) = false := by simpa using fun e => hj e.symm
    rw [e1, e4]
    by_cases e2 : q.1 + 1 = i
    · have e3 : ¬ u.category = 2 := fun e => a2 ⟨e2, e⟩
      simp [e3]
    · simp [e2]
/-- a method's entry -/
def zw_sp : List Value → List (Option Value)
  | [] => []
  | v :: vs => if v.category = 2 then some v :: none :: zw_sp vs else some v :: zw_sp vs
def zw_in (n : Nat) (As : List Value) : List (Option Value) := zw_sp As ++ List.replicate (n - (zw_sp As).length) none
theorem zw_sp_len {G : zw_G} (As : List Value) : (lg_sl (As.map (zw_v G))).length = (zw_sp As).length := by
  induction As with
  | nil => rfl
  | cons v vs ih =>
    unfold lg_sl at ih ⊢
    rw [List.map_cons, List.flatMap_cons, List.length_append, ih, zw_cat, zw_sp]
    split <;> simp <;> omega
theorem zw_sp_args {G : zw_G} (As : List Value) : ∀ (k i : Nat) (v : Value), (zw_sp As)[i]? = some (some v) → (k + i, zw_v G v) ∈ lv_args k (As.map (zw_v G)) := by
  induction As with
  | nil => intro k i v h; simp [zw_sp] at h
  | cons u us ih =>
    intro k i v h
    rw [List.map_cons, lv_args, zw_cat]
    rw [zw_sp] at h
    split at h
    · rename_i hc
      rw [if_pos hc]
      match i, h with
      | 0, h => cases h; exact List.mem_cons_self
      | 1, h => cases h
      | i + 2, h =>
        have := ih (k + 2) i v h
        rw [show k + (i + 2) = k + 2 + i by omega]
        exact List.mem_cons_of_mem _ this
    · rename_i hc
      rw [if_neg hc]
      match i, h with
      | 0, h => cases h; exact List.mem_cons_self
      | i + 1, h =>
        have := ih (k + 1) i v h
        rw [show k + (i + 1) = k + 1 + i by omega]
        exact List.mem_cons_of_mem _ this
theorem zw_L.entry {G : zw_G} {n : Nat} {As : List Value} {ls' : Array Slot} (h : lv_has ls' n (lv_args 0 (As.map (zw_v G)))) : zw_L G n (zw_in n As) ls' := by
  refine ⟨h.1, h.2.1, fun q hq => h.2.2 q ?_⟩
  obtain ⟨u, h1, h2⟩ := zw_l_mem.mp hq
  unfold zw_in at h1
  rw [List.getElem?_append] at h1
  split at h1
  · have := zw_sp_args (G := G) As 0 q.1 u h1
    rw [Nat.zero_add, ← h2] at this
    exact this
  · rw [List.getElem?_replicate] at h1
    split at h1 <;> cases h1
/-- the array kinds: 0 int, 1 long, 2 Document, 3 int[] -/
def zw_ty (G : zw_G) : List (ClassId × FieldType) := [(G.2.2.1 0, .int), (G.2.2.1 1, .long), (G.2.2.1 2, .object "WordEvidence$Document"), (G.2.2.1 3, .array .int)]
/-- what stays during a method -/
def zw_F (G : zw_G) (Y : zw_Y) (E : State → Prop) (p : Program) (s : State) (m : MethodId) (args : Array Value) (meth : Method) (c : Code) : Prop :=
  p.tables.exec = Jvm.exec ∧ c.code = Y.2.1 ∧ c.maxLocals = Y.2.2.1 ∧ meth.sig.returnType = Y.2.2.2 ∧ meth.locks = false ∧ meth.name = Y.1.name ∧ s.vm.findClass Y.1.cls = some m.cls ∧ (∀ w ∈ zw_T, w.before args s = true) ∧ va_K G.2.1 vwCl (zw_ty G) s ∧ G.2.2.2.2 ≤ s.heap.size ∧ E s
/-- what changes -/
def zw_N (G : zw_G) (n κ : Nat) (ls : List (Option Value)) (w : zw_W) (s : State) (H : Heap) (locs : List Loc) (ls' : Array Slot) : Prop :=
  s.heap.size + κ = G.2.2.2.2 + w.length ∧ va_P G.2.1 vwCl (zw_w G w) H ∧ va_S (fun q => G.2.2.2.2 ≤ q) s.heap H locs ∧ zw_L G n ls ls'
def zw_Z (G : zw_G) (Y : zw_Y) (R : Room) (E : State → Prop) (Qf : zw_Qt) (κ σ pc : Nat) (ls : List (Option Value)) (st : List Value) (w : zw_W) : Prop :=
  ∀ (p : Program) (e : Env) (s : State) (m : MethodId) (args : Array Value) (below : List Frame) (meth : Method) (c : Code) (H : Heap) (locs : List Loc) (ls' : Array Slot), zw_F G Y E p s m args meth c → zw_N G Y.2.2.1 κ ls w s H locs ls' →
    W p G.1 e R s m args below meth c H locs κ σ (Qf below args s) (F0 m pc ls' (st.map (zw_v G)))
def zw_q (G : zw_G) (P : Option Value → zw_W → Prop) : Array Value → State → Outcome → State → Prop := fun _ st oc t =>
  (∃ (v : Option Value) (w : zw_W), oc = .returned (v.map (zw_v G)) ∧ P v w ∧ va_P G.2.1 vwCl (zw_w G w) t.heap) ∧ va_F (fun q => G.2.2.2.2 ≤ q) st t
def zw_Q (G : zw_G) (mc ms : Nat) (P : Option Value → zw_W → Prop) : zw_Qt := fun below args s => MQ below (zw_q G P) args s mc ms (fun q => G.2.2.2.2 ≤ q)
def zw_R (d mc ms : Nat) : Room := { frames := d, cells := mc, slots := ms, locals := 40 * d }
/-- a method's contract -/
def zw_Met (G : zw_G) (Y : zw_Y) (d mc ms : Nat) (As : List Value) (w : zw_W) (P : Option Value → zw_W → Prop) : Prop :=
  zw_Z G Y (zw_R d mc ms) (fun _ => True) (zw_Q G mc ms P) 0 0 0 (zw_in Y.2.2.1 As) [] w
def zw_Pre (G : zw_G) (w : zw_W) (U : State) : Prop := (∀ x ∈ zw_T, x.before #[] U = true) ∧ va_K G.2.1 vwCl (zw_ty G) U ∧ U.heap.size = G.2.2.2.2 + w.length ∧ va_P G.2.1 vwCl (zw_w G w) U.heap
theorem zw_T_warm {s U : State} {a a' : Array Value} (hW : s.WarmedH U.vm) (h : ∀ x ∈ zw_T, x.before a s = true) : ∀ x ∈ zw_T, x.before a' U = true := fun x hx => zw_warm (List.mem_filter.mp hx).2 hW (h x hx)
theorem zw_met {G : zw_G} {Y : zw_Y} {d mc ms : Nat} {As : List Value} {w : zw_W} {P : Option Value → zw_W → Prop} (hy : plainName Y.1.cls = true) (hlen : (zw_sp As).length ≤ Y.2.2.1) (h : zw_Met G Y d mc ms As w P) :
    Met G.1 Y.1 [Cond.code Y.1 Y.2.1 Y.2.2.1 Y.2.2.2] (zw_R d mc ms) (va_Pc (As.map (zw_v G)) (zw_Pre G w)) (zw_q G P) mc ms (fun q => G.2.2.2.2 ≤ q) := by
  refine Met.ofW (cc := Y.2.1) (maxL := Y.2.2.1) (ret := Y.2.2.2) hy rfl ?_
  intro p e s m args below meth c s₁ B hml hv
  obtain ⟨rfl, hT, hK, hz, hP⟩ := hv
  have hl := lv_entry (As.map (zw_v G)) (n := Y.2.2.1) (by rw [zw_sp_len]; exact hlen)
  rw [lg_entry_eq]
  exact h p e s m _ below meth c s.heap [] _ ⟨B.exec, B.bytes, hml, B.returns, B.notSynchronized, (name_of_methodNamed B.named B.method).1, findClass_of_methodNamed B.named, zw_T_warm (State.WarmedH.refl s) hT, hK, by omega, trivial⟩ ⟨by omega, hP, va_S.rf, zw_L.entry hl⟩
theorem zw_blind {G : zw_G} {w : zw_W} {av : List Value} : FrameBlind (va_Pc av (zw_Pre G w)) := fun a U g mk q => by
  obtain ⟨q0, qT, qK, qz, qP⟩ := q
  exact ⟨q0, zw_T_warm (s := U) (U := U.calling g mk a) (State.WarmedH.refl U) qT, va_K.moved (u := U) (U := U.calling g mk a) (Vm.Alike.refl U.vm) qK, qz, qP⟩
theorem zw_preS {G : zw_G} {w : zw_W} {s : State} {H : Heap} {args : Array Value} {As : List Value} (hT : ∀ x ∈ zw_T, x.before args s = true) (hK : va_K G.2.1 vwCl (zw_ty G) s) (hz : H.size = G.2.2.2.2 + w.length) (hP : va_P G.2.1 vwCl (zw_w G w) H) :
    PreS s H (va_Pc As (zw_Pre G w)) As := ⟨zw_blind, fun U hU hW => ⟨rfl, zw_T_warm hW hT, va_K.moved hW.alike hK, by rw [hU]; exact hz, by rw [hU]; exact hP⟩⟩
/-- the heap's size, out of the cells' count -/
theorem zw_size {G : zw_G} {κ σ n : Nat} {w : zw_W} {ls : List (Option Value)} {ls' : Array Slot} {p : Program} {e : Env} {R : Room} {s : State} {m : MethodId} {args : Array Value} {below : List Frame} {meth : Method} {c : Code} {H : Heap} {locs : List Loc} {T : State}
    (hb : G.2.2.2.2 ≤ s.heap.size) (N : zw_N G n κ ls w s H locs ls') (hT : T.heap = H) (X : Stand p G.1 e R s m args below meth c T locs κ σ) : H.size = G.2.2.2.2 + w.length := by
  obtain ⟨hk, hP, hS, -⟩ := N
  have h1 := X.heapSize
  rw [hT] at h1
  have h2 := hS.1
  by_cases h0 : w.length = 0
  · omega
  · obtain ⟨x, hx⟩ : ∃ x, w[w.length - 1]? = some x := ⟨w[w.length - 1], List.getElem?_eq_getElem (by omega)⟩
    have h3 := (hP _ _ (zw_at hx)).lt
    simp only at h3
    omega
end ZW
end
section
section ZR
variable {G : zw_G} {Y : zw_Y} {R : Room} {E : State → Prop} {Qf : zw_Qt} {κ σ pc : Nat} {ls : List (Option Value)} {st : List Value} {w : zw_W}
theorem zr_iconst {n : Int} {v : Int32} (d : decode Y.2.1 pc = .ok (.iconst n, 1)) (hv : Int32.ofInt n = v) (k : zw_Z G Y R E Qf κ σ (pc + 1) ls (.int v :: st) w) : zw_Z G Y R E Qf κ σ pc ls st w := fun p e s m args below meth c H locs ls' F N => lv_iconst F.1 F.2.1 d hv (k p e s m args below meth c H locs ls' F N)
theorem zr_bipush {n : Int} {v : Int32} (d : decode Y.2.1 pc = .ok (.bipush n, 2)) (hv : (Int8.ofInt n).toInt32 = v) (k : zw_Z G Y R E Qf κ σ (pc + 2) ls (.int v :: st) w) : zw_Z G Y R E Qf κ σ pc ls st w := fun p e s m args below meth c H locs ls' F N => lv_bipush F.1 F.2.1 d hv (k p e s m args below meth c H locs ls' F N)
theorem zr_sipush {n : Int} {v : Int32} (d : decode Y.2.1 pc = .ok (.sipush n, 3)) (hv : (Int16.ofInt n).toInt32 = v) (k : zw_Z G Y R E Qf κ σ (pc + 3) ls (.int v :: st) w) : zw_Z G Y R E Qf κ σ pc ls st w := fun p e s m args below meth c H locs ls' F N => lv_sipush F.1 F.2.1 d hv (k p e s m args below meth c H locs ls' F N)
theorem zr_lconst {n : Fin 2} {v : Int64} (d : decode Y.2.1 pc = .ok (.lconst n, 1)) (hv : Int64.ofNat (n : Nat) = v) (k : zw_Z G Y R E Qf κ σ (pc + 1) ls (.long v :: st) w) : zw_Z G Y R E Qf κ σ pc ls st w := fun p e s m args below meth c H locs ls' F N => lv_lconst F.1 F.2.1 d hv (k p e s m args below meth c H locs ls' F N)
theorem zr_null (d : decode Y.2.1 pc = .ok (.aconst_null, 1)) (k : zw_Z G Y R E Qf κ σ (pc + 1) ls (.null :: st) w) : zw_Z G Y R E Qf κ σ pc ls st w := fun p e s m args below meth c H locs ls' F N => lv_null F.1 F.2.1 d (k p e s m args below meth c H locs ls' F N)
theorem zr_ldc2 {idx : Nat} {v : Int64} (hw : Cond.constantLong Y.1.cls idx v ∈ zw_T) (d : decode Y.2.1 pc = .ok (.ldc2_w idx, 3)) (k : zw_Z G Y R E Qf κ σ (pc + 3) ls (.long v :: st) w) : zw_Z G Y R E Qf κ σ pc ls st w := fun p e s m args below meth c H locs ls' F N => lv_ldc2 F.1 F.2.1 F.2.2.2.2.2.2.1 (F.2.2.2.2.2.2.2.1 _ hw) d (k p e s m args below meth c H locs ls' F N)
theorem zr_iload {i : Nat} {x : Int32} (d : decode Y.2.1 pc = .ok (.iload i, 2)) (h : ls[i]? = some (some (.int x))) (k : zw_Z G Y R E Qf κ σ (pc + 2) ls (.int x :: st) w) : zw_Z G Y R E Qf κ σ pc ls st w := fun p e s m args below meth c H locs ls' F N => lv_iload F.1 F.2.1 d (N.2.2.2.at h) (k p e s m args below meth c H locs ls' F N)
theorem zr_iload_n {j : Fin 4} {x : Int32} (d : decode Y.2.1 pc = .ok (.iload_n j, 1)) (h : ls[(j : Nat)]? = some (some (.int x))) (k : zw_Z G Y R E Qf κ σ (pc + 1) ls (.int x :: st) w) : zw_Z G Y R E Qf κ σ pc ls st w := fun p e s m args below meth c H locs ls' F N => lv_iload_n F.1 F.2.1 d rfl (N.2.2.2.at h) (k p e s m args below meth c H locs ls' F N)
theorem zr_lload {i : Nat} {x : Int64} (d : decode Y.2.1 pc = .ok (.lload i, 2)) (h : ls[i]? = some (some (.long x))) (k : zw_Z G Y R E Qf κ σ (pc + 2) ls (.long x :: st) w) : zw_Z G Y R E Qf κ σ pc ls st w := fun p e s m args below meth c H locs ls' F N => lv_lload F.1 F.2.1 d (N.2.2.2.at h) (k p e s m args below meth c H locs ls' F N)
theorem zr_lload_n {j : Fin 4} {x : Int64} (d : decode Y.2.1 pc = .ok (.lload_n j, 1)) (h : ls[(j : Nat)]? = some (some (.long x))) (k : zw_Z G Y R E Qf κ σ (pc + 1) ls (.long x :: st) w) : zw_Z G Y R E Qf κ σ pc ls st w := fun p e s m args below meth c H locs ls' F N => lv_lload_n F.1 F.2.1 d rfl (N.2.2.2.at h) (k p e s m args below meth c H locs ls' F N)
def zw_isA (v : Value) : Bool := match v with
  | .null => true
  | .ref _ => true
  | _ => false
theorem zw_isA_or {v : Value} (h : zw_isA v = true) : v = .null ∨ ∃ i, v = .ref i := by
  cases v <;> first | exact Or.inl rfl | exact Or.inr ⟨_, rfl⟩ | cases h
theorem zr_aload {i : Nat} {v : Value} (d : decode Y.2.1 pc = .ok (.aload i, 2)) (h : ls[i]? = some (some v)) (hv : zw_isA v = true) (k : zw_Z G Y R E Qf κ σ (pc + 2) ls (v :: st) w) : zw_Z G Y R E Qf κ σ pc ls st w := by
  rcases zw_isA_or hv with rfl | ⟨i, rfl⟩
  · exact fun p e s m args below meth c H locs ls' F N => lv_aloadN F.1 F.2.1 d (N.2.2.2.at h) (k p e s m args below meth c H locs ls' F N)
  · exact fun p e s m args below meth c H locs ls' F N => lv_aload F.1 F.2.1 d (N.2.2.2.at h) (k p e s m args below meth c H locs ls' F N)
theorem zr_aload_n {j : Fin 4} {v : Value} (d : decode Y.2.1 pc = .ok (.aload_n j, 1)) (h : ls[(j : Nat)]? = some (some v)) (hv : zw_isA v = true) (k : zw_Z G Y R E Qf κ σ (pc + 1) ls (v :: st) w) : zw_Z G Y R E Qf κ σ pc ls st w := by
  rcases zw_isA_or hv with rfl | ⟨i, rfl⟩
  · exact fun p e s m args below meth c H locs ls' F N => lv_aload_nN F.1 F.2.1 d rfl (N.2.2.2.at h) (k p e s m args below meth c H locs ls' F N)
  · exact fun p e s m args below meth c H locs ls' F N => lv_aload_n F.1 F.2.1 d rfl (N.2.2.2.at h) (k p e s m args below meth c H locs ls' F N)
theorem zr_istore {i : Nat} {x : Int32} (d : decode Y.2.1 pc = .ok (.istore i, 2)) (hn : i < Y.2.2.1) (k : zw_Z G Y R E Qf κ σ (pc + 2) (zw_st ls i (.int x)) st w) : zw_Z G Y R E Qf κ σ pc ls (.int x :: st) w := fun p e s m args below meth c H locs ls' F N => lv_istore F.1 F.2.1 d N.2.2.2 hn rfl (fun l2 h2 => k p e s m args below meth c H locs l2 F ⟨N.1, N.2.1, N.2.2.1, zw_L.st (v := .int x) h2⟩)
theorem zr_istore_n {j : Fin 4} {x : Int32} (d : decode Y.2.1 pc = .ok (.istore_n j, 1)) (hn : (j : Nat) < Y.2.2.1) (k : zw_Z G Y R E Qf κ σ (pc + 1) (zw_st ls (j : Nat) (.int x)) st w) : zw_Z G Y R E Qf κ σ pc ls (.int x :: st) w := fun p e s m args below meth c H locs ls' F N => lv_istore_n F.1 F.2.1 d rfl N.2.2.2 hn rfl (fun l2 h2 => k p e s m args below meth c H locs l2 F ⟨N.1, N.2.1, N.2.2.1, zw_L.st (v := .int x) h2⟩)
theorem zr_lstore {i : Nat} {x : Int64} (d : decode Y.2.1 pc = .ok (.lstore i, 2)) (hn : i + 1 < Y.2.2.1) (k : zw_Z G Y R E Qf κ σ (pc + 2) (zw_st2 ls i (.long x)) st w) : zw_Z G Y R E Qf κ σ pc ls (.long x :: st) w := fun p e s m args below meth c H locs ls' F N => lv_lstore F.1 F.2.1 d N.2.2.2 hn rfl (fun l2 h2 => k p e s m args below meth c H locs l2 F ⟨N.1, N.2.1, N.2.2.1, zw_L.st2 (v := .long x) h2⟩)
theorem zr_lstore_n {j : Fin 4} {x : Int64} (d : decode Y.2.1 pc = .ok (.lstore_n j, 1)) (hn : (j : Nat) + 1 < Y.2.2.1) (k : zw_Z G Y R E Qf κ σ (pc + 1) (zw_st2 ls (j : Nat) (.long x)) st w) : zw_Z G Y R E Qf κ σ pc ls (.long x :: st) w := fun p e s m args below meth c H locs ls' F N => lv_lstore_n F.1 F.2.1 d rfl N.2.2.2 hn rfl (fun l2 h2 => k p e s m args below meth c H locs l2 F ⟨N.1, N.2.1, N.2.2.1, zw_L.st2 (v := .long x) h2⟩)
theorem zr_astore {i : Nat} {v : Value} (d : decode Y.2.1 pc = .ok (.astore i, 2)) (hn : i < Y.2.2.1) (hv : zw_isA v = true) (k : zw_Z G Y R E Qf κ σ (pc + 2) (zw_st ls i v) st w) : zw_Z G Y R E Qf κ σ pc ls (v :: st) w := by
  rcases zw_isA_or hv with rfl | ⟨a, rfl⟩
  · exact fun p e s m args below meth c H locs ls' F N => lv_astoreN F.1 F.2.1 d N.2.2.2 hn rfl (fun l2 h2 => k p e s m args below meth c H locs l2 F ⟨N.1, N.2.1, N.2.2.1, zw_L.st (v := .null) h2⟩)
  · exact fun p e s m args below meth c H locs ls' F N => lv_astore F.1 F.2.1 d N.2.2.2 hn rfl (fun l2 h2 => k p e s m args below meth c H locs l2 F ⟨N.1, N.2.1, N.2.2.1, zw_L.st (v := .ref a) h2⟩)
theorem zr_astore_n {j : Fin 4} {v : Value} (d : decode Y.2.1 pc = .ok (.astore_n j, 1)) (hn : (j : Nat) < Y.2.2.1) (hv : zw_isA v = true) (k : zw_Z G Y R E Qf κ σ (pc + 1) (zw_st ls (j : Nat) v) st w) : zw_Z G Y R E Qf κ σ pc ls (v :: st) w := by
  rcases zw_isA_or hv with rfl | ⟨a, rfl⟩
  · exact fun p e s m args below meth c H locs ls' F N => lv_astore_nN F.1 F.2.1 d rfl N.2.2.2 hn rfl (fun l2 h2 => k p e s m args below meth c H locs l2 F ⟨N.1, N.2.1, N.2.2.1, zw_L.st (v := .null) h2⟩)
  · exact fun p e s m args below meth c H locs ls' F N => lv_astore_n F.1 F.2.1 d rfl N.2.2.2 hn rfl (fun l2 h2 => k p e s m args below meth c H locs l2 F ⟨N.1, N.2.1, N.2.2.1, zw_L.st (v := .ref a) h2⟩)
theorem zr_iinc {i : Nat} {n : Int} {x v : Int32} (d : decode Y.2.1 pc = .ok (.iinc i n, 3)) (h : ls[i]? = some (some (.int x))) (hv : x + Int32.ofInt n = v) (hn : i < Y.2.2.1) (k : zw_Z G Y R E Qf κ σ (pc + 3) (zw_st ls i (.int v)) st w) : zw_Z G Y R E Qf κ σ pc ls st w := fun p e s m args below meth c H locs ls' F N => by
  obtain ⟨q, hq⟩ := List.getElem?_of_mem (zw_l_mem (G := G) (q := (i, .int x)).mpr ⟨.int x, h, rfl⟩)
  exact lv_iinc F.1 F.2.1 d N.2.2.2 hq hv hn rfl (fun l2 h2 => k p e s m args below meth c H locs l2 F ⟨N.1, N.2.1, N.2.2.1, zw_L.st (v := .int v) h2⟩)
theorem zr_iadd {x y : Int32} (d : decode Y.2.1 pc = .ok (.iadd, 1)) (k : zw_Z G Y R E Qf κ σ (pc + 1) ls (.int (x + y) :: st) w) : zw_Z G Y R E Qf κ σ pc ls (.int y :: .int x :: st) w := fun p e s m args below meth c H locs ls' F N => lv_iadd F.1 F.2.1 d (k p e s m args below meth c H locs ls' F N)
theorem zr_isub {x y : Int32} (d : decode Y.2.1 pc = .ok (.isub, 1)) (k : zw_Z G Y R E Qf κ σ (pc + 1) ls (.int (x - y) :: st) w) : zw_Z G Y R E Qf κ σ pc ls (.int y :: .int x :: st) w := fun p e s m args below meth c H locs ls' F N => lv_isub F.1 F.2.1 d (k p e s m args below meth c H locs ls' F N)
theorem zr_imul {x y : Int32} (d : decode Y.2.1 pc = .ok (.imul, 1)) (k : zw_Z G Y R E Qf κ σ (pc + 1) ls (.int (x * y) :: st) w) : zw_Z G Y R E Qf κ σ pc ls (.int y :: .int x :: st) w := fun p e s m args below meth c H locs ls' F N => lv_imul F.1 F.2.1 d (k p e s m args below meth c H locs ls' F N)
theorem zr_iand {x y : Int32} (d : decode Y.2.1 pc = .ok (.iand, 1)) (k : zw_Z G Y R E Qf κ σ (pc + 1) ls (.int (x &&& y) :: st) w) : zw_Z G Y R E Qf κ σ pc ls (.int y :: .int x :: st) w := fun p e s m args below meth c H locs ls' F N => lv_iand F.1 F.2.1 d (k p e s m args below meth c H locs ls' F N)
theorem zr_ladd {x y : Int64} (d : decode Y.2.1 pc = .ok (.ladd, 1)) (k : zw_Z G Y R E Qf κ σ (pc + 1) ls (.long (x + y) :: st) w) : zw_Z G Y R E Qf κ σ pc ls (.long y :: .long x :: st) w := fun p e s m args below meth c H locs ls' F N => lv_ladd F.1 F.2.1 d (k p e s m args below meth c H locs ls' F N)
theorem zr_lmul {x y : Int64} (d : decode Y.2.1 pc = .ok (.lmul, 1)) (k : zw_Z G Y R E Qf κ σ (pc + 1) ls (.long (x * y) :: st) w) : zw_Z G Y R E Qf κ σ pc ls (.long y :: .long x :: st) w := fun p e s m args below meth c H locs ls' F N => lv_lmul F.1 F.2.1 d (k p e s m args below meth c H locs ls' F N)
theorem zr_land {x y : Int64} (d : decode Y.2.1 pc = .ok (.land, 1)) (k : zw_Z G Y R E Qf κ σ (pc + 1) ls (.long (x &&& y) :: st) w) : zw_Z G Y R E Qf κ σ pc ls (.long y :: .long x :: st) w := fun p e s m args below meth c H locs ls' F N => lv_land F.1 F.2.1 d (k p e s m args below meth c H locs ls' F N)
theorem zr_lor {x y : Int64} (d : decode Y.2.1 pc = .ok (.lor, 1)) (k : zw_Z G Y R E Qf κ σ (pc + 1) ls (.long (x ||| y) :: st) w) : zw_Z G Y R E Qf κ σ pc ls (.long y :: .long x :: st) w := fun p e s m args below meth c H locs ls' F N => lv_lor F.1 F.2.1 d (k p e s m args below meth c H locs ls' F N)
theorem zr_idiv {x y : Int32} (d : decode Y.2.1 pc = .ok (.idiv, 1)) (hne : ¬ y = 0) (k : zw_Z G Y R E Qf κ σ (pc + 1) ls (.int (x / y) :: st) w) : zw_Z G Y R E Qf κ σ pc ls (.int y :: .int x :: st) w := fun p e s m args below meth c H locs ls' F N => lv_idiv F.1 F.2.1 d hne (k p e s m args below meth c H locs ls' F N)
theorem zr_irem {x y : Int32} (d : decode Y.2.1 pc = .ok (.irem, 1)) (hne : ¬ y = 0) (k : zw_Z G Y R E Qf κ σ (pc + 1) ls (.int (x - x / y * y) :: st) w) : zw_Z G Y R E Qf κ σ pc ls (.int y :: .int x :: st) w := fun p e s m args below meth c H locs ls' F N => lv_irem F.1 F.2.1 d hne (k p e s m args below meth c H locs ls' F N)
theorem zr_lushr {x v : Int64} {y : Int32} (d : decode Y.2.1 pc = .ok (.lushr, 1)) (hv : (x.toUInt64 >>> (y.toInt64.toUInt64 &&& Int64.toUInt64 63)).toInt64 = v) (k : zw_Z G Y R E Qf κ σ (pc + 1) ls (.long v :: st) w) : zw_Z G Y R E Qf κ σ pc ls (.int y :: .long x :: st) w := fun p e s m args below meth c H locs ls' F N => lv_lushr F.1 F.2.1 d hv (k p e s m args below meth c H locs ls' F N)
theorem zr_lshl {x v : Int64} {y : Int32} (d : decode Y.2.1 pc = .ok (.lshl, 1)) (hv : x <<< (y.toInt64 &&& 63) = v) (k : zw_Z G Y R E Qf κ σ (pc + 1) ls (.long v :: st) w) : zw_Z G Y R E Qf κ σ pc ls (.int y :: .long x :: st) w := fun p e s m args below meth c H locs ls' F N => lv_lshl F.1 F.2.1 d hv (k p e s m args below meth c H locs ls' F N)
theorem zr_i2l {x : Int32} {v : Int64} (d : decode Y.2.1 pc = .ok (.i2l, 1)) (hv : x.toInt64 = v) (k : zw_Z G Y R E Qf κ σ (pc + 1) ls (.long v :: st) w) : zw_Z G Y R E Qf κ σ pc ls (.int x :: st) w := fun p e s m args below meth c H locs ls' F N => lv_i2l F.1 F.2.1 d hv (k p e s m args below meth c H locs ls' F N)
theorem zr_l2i {x : Int64} {v : Int32} (d : decode Y.2.1 pc = .ok (.l2i, 1)) (hv : x.toInt32 = v) (k : zw_Z G Y R E Qf κ σ (pc + 1) ls (.int v :: st) w) : zw_Z G Y R E Qf κ σ pc ls (.long x :: st) w := fun p e s m args below meth c H locs ls' F N => lv_l2i F.1 F.2.1 d hv (k p e s m args below meth c H locs ls' F N)
theorem zr_i2c {x : Int32} {v : Int32} (d : decode Y.2.1 pc = .ok (.i2c, 1)) (hv : (x.toUInt32 % 65536).toInt32 = v) (k : zw_Z G Y R E Qf κ σ (pc + 1) ls (.int v :: st) w) : zw_Z G Y R E Qf κ σ pc ls (.int x :: st) w := fun p e s m args below meth c H locs ls' F N => lv_i2c F.1 F.2.1 d hv (k p e s m args below meth c H locs ls' F N)
theorem zr_lcmp {x y : Int64} (d : decode Y.2.1 pc = .ok (.lcmp, 1)) (k : zw_Z G Y R E Qf κ σ (pc + 1) ls (.int (lg_cmp x y) :: st) w) : zw_Z G Y R E Qf κ σ pc ls (.long y :: .long x :: st) w := fun p e s m args below meth c H locs ls' F N => W.lcmp F.1 F.2.1 d (k p e s m args below meth c H locs ls' F N)
theorem zr_dup {v : Value} (d : decode Y.2.1 pc = .ok (.dup, 1)) (hv : v.category = 1) (k : zw_Z G Y R E Qf κ σ (pc + 1) ls (v :: v :: st) w) : zw_Z G Y R E Qf κ σ pc ls (v :: st) w := fun p e s m args below meth c H locs ls' F N => lv_dup F.1 F.2.1 d ((zw_cat v).trans hv) (k p e s m args below meth c H locs ls' F N)
theorem zr_pop {v : Value} (d : decode Y.2.1 pc = .ok (.pop, 1)) (hv : v.category = 1) (k : zw_Z G Y R E Qf κ σ (pc + 1) ls st w) : zw_Z G Y R E Qf κ σ pc ls (v :: st) w := fun p e s m args below meth c H locs ls' F N => lv_pop F.1 F.2.1 d ((zw_cat v).trans hv) (k p e s m args below meth c H locs ls' F N)
theorem zr_icmp_eq {x y : Int32} {off : Int} {tgt : Nat} (d : decode Y.2.1 pc = .ok (.if_icmp .eq off, 3)) (ht : (pc : Int) + off = (tgt : Int)) (kt : x = y → zw_Z G Y R E Qf κ σ tgt ls st w) (kf : ¬ x = y → zw_Z G Y R E Qf κ σ (pc + 3) ls st w) : zw_Z G Y R E Qf κ σ pc ls (.int y :: .int x :: st) w := fun p e s m args below meth c H locs ls' F N => lv_icmp_eq F.1 F.2.1 d ht (fun z => kt z p e s m args below meth c H locs ls' F N) (fun z => kf z p e s m args below meth c H locs ls' F N)
theorem zr_if_eq {x : Int32} {off : Int} {tgt : Nat} (d : decode Y.2.1 pc = .ok (.ifCond .eq off, 3)) (ht : (pc : Int) + off = (tgt : Int)) (kt : x = 0 → zw_Z G Y R E Qf κ σ tgt ls st w) (kf : ¬ x = 0 → zw_Z G Y R E Qf κ σ (pc + 3) ls st w) : zw_Z G Y R E Qf κ σ pc ls (.int x :: st) w := fun p e s m args below meth c H locs ls' F N => lv_if_eq F.1 F.2.1 d ht (fun z => kt z p e s m args below meth c H locs ls' F N) (fun z => kf z p e s m args below meth c H locs ls' F N)
theorem zr_icmp_eqN {a b : Nat} {off : Int} {tgt : Nat} (ha : a < 2 ^ 31) (hb : b < 2 ^ 31) (d : decode Y.2.1 pc = .ok (.if_icmp .eq off, 3)) (ht : (pc : Int) + off = (tgt : Int)) (kt : a = b → zw_Z G Y R E Qf κ σ tgt ls st w) (kf : a ≠ b → zw_Z G Y R E Qf κ σ (pc + 3) ls st w) : zw_Z G Y R E Qf κ σ pc ls (.int (nI b) :: .int (nI a) :: st) w := zr_icmp_eq d ht (fun z => kt ((nI_eq ha hb).mp z)) (fun z => kf (fun u => z ((nI_eq ha hb).mpr u)))
theorem zr_icmp_ne {x y : Int32} {off : Int} {tgt : Nat} (d : decode Y.2.1 pc = .ok (.if_icmp .ne off, 3)) (ht : (pc : Int) + off = (tgt : Int)) (kt : ¬ x = y → zw_Z G Y R E Qf κ σ tgt ls st w) (kf : x = y → zw_Z G Y R E Qf κ σ (pc + 3) ls st w) : zw_Z G Y R E Qf κ σ pc ls (.int y :: .int x :: st) w := fun p e s m args below meth c H locs ls' F N => lv_icmp_ne F.1 F.2.1 d ht (fun z => kt z p e s m args below meth c H locs ls' F N) (fun z => kf z p e s m args below meth c H locs ls' F N)
theorem zr_if_ne {x : Int32} {off : Int} {tgt : Nat} (d : decode Y.2.1 pc = .ok (.ifCond .ne off, 3)) (ht : (pc : Int) + off = (tgt : Int)) (kt : ¬ x = 0 → zw_Z G Y R E Qf κ σ tgt ls st w) (kf : x = 0 → zw_Z G Y R E Qf κ σ (pc + 3) ls st w) : zw_Z G Y R E Qf κ σ pc ls (.int x :: st) w := fun p e s m args below meth c H locs ls' F N => lv_if_ne F.1 F.2.1 d ht (fun z => kt z p e s m args below meth c H locs ls' F N) (fun z => kf z p e s m args below meth c H locs ls' F N)
theorem zr_icmp_neN {a b : Nat} {off : Int} {tgt : Nat} (ha : a < 2 ^ 31) (hb : b < 2 ^ 31) (d : decode Y.2.1 pc = .ok (.if_icmp .ne off, 3)) (ht : (pc : Int) + off = (tgt : Int)) (kt : a ≠ b → zw_Z G Y R E Qf κ σ tgt ls st w) (kf : a = b → zw_Z G Y R E Qf κ σ (pc + 3) ls st w) : zw_Z G Y R E Qf κ σ pc ls (.int (nI b) :: .int (nI a) :: st) w := zr_icmp_ne d ht (fun z => kt (fun u => z ((nI_eq ha hb).mpr u))) (fun z => kf ((nI_eq ha hb).mp z))
theorem zr_icmp_lt {x y : Int32} {off : Int} {tgt : Nat} (d : decode Y.2.1 pc = .ok (.if_icmp .lt off, 3)) (ht : (pc : Int) + off = (tgt : Int)) (kt : x < y → zw_Z G Y R E Qf κ σ tgt ls st w) (kf : ¬ x < y → zw_Z G Y R E Qf κ σ (pc + 3) ls st w) : zw_Z G Y R E Qf κ σ pc ls (.int y :: .int x :: st) w := fun p e s m args below meth c H locs ls' F N => lv_icmp_lt F.1 F.2.1 d ht (fun z => kt z p e s m args below meth c H locs ls' F N) (fun z => kf z p e s m args below meth c H locs ls' F N)
theorem zr_if_lt {x : Int32} {off : Int} {tgt : Nat} (d : decode Y.2.1 pc = .ok (.ifCond .lt off, 3)) (ht : (pc : Int) + off = (tgt : Int)) (kt : x < 0 → zw_Z G Y R E Qf κ σ tgt ls st w) (kf : ¬ x < 0 → zw_Z G Y R E Qf κ σ (pc + 3) ls st w) : zw_Z G Y R E Qf κ σ pc ls (.int x :: st) w := fun p e s m args below meth c H locs ls' F N => lv_if_lt F.1 F.2.1 d ht (fun z => kt z p e s m args below meth c H locs ls' F N) (fun z => kf z p e s m args below meth c H locs ls' F N)
theorem zr_icmp_ltN {a b : Nat} {off : Int} {tgt : Nat} (ha : a < 2 ^ 31) (hb : b < 2 ^ 31) (d : decode Y.2.1 pc = .ok (.if_icmp .lt off, 3)) (ht : (pc : Int) + off = (tgt : Int)) (kt : a < b → zw_Z G Y R E Qf κ σ tgt ls st w) (kf : b ≤ a → zw_Z G Y R E Qf κ σ (pc + 3) ls st w) : zw_Z G Y R E Qf κ σ pc ls (.int (nI b) :: .int (nI a) :: st) w := zr_icmp_lt d ht (fun z => kt ((nI_ltI ha hb).mp z)) (fun z => kf (Nat.not_lt.mp fun u => z ((nI_ltI ha hb).mpr u)))
theorem zr_icmp_ge {x y : Int32} {off : Int} {tgt : Nat} (d : decode Y.2.1 pc = .ok (.if_icmp .ge off, 3)) (ht : (pc : Int) + off = (tgt : Int)) (kt : y ≤ x → zw_Z G Y R E Qf κ σ tgt ls st w) (kf : ¬ y ≤ x → zw_Z G Y R E Qf κ σ (pc + 3) ls st w) : zw_Z G Y R E Qf κ σ pc ls (.int y :: .int x :: st) w := fun p e s m args below meth c H locs ls' F N => lv_icmp_ge F.1 F.2.1 d ht (fun z => kt z p e s m args below meth c H locs ls' F N) (fun z => kf z p e s m args below meth c H locs ls' F N)
theorem zr_if_ge {x : Int32} {off : Int} {tgt : Nat} (d : decode Y.2.1 pc = .ok (.ifCond .ge off, 3)) (ht : (pc : Int) + off = (tgt : Int)) (kt : 0 ≤ x → zw_Z G Y R E Qf κ σ tgt ls st w) (kf : ¬ 0 ≤ x → zw_Z G Y R E Qf κ σ (pc + 3) ls st w) : zw_Z G Y R E Qf κ σ pc ls (.int x :: st) w := fun p e s m args below meth c H locs ls' F N => lv_if_ge F.1 F.2.1 d ht (fun z => kt z p e s m args below meth c H locs ls' F N) (fun z => kf z p e s m args below meth c H locs ls' F N)
theorem zr_icmp_geN {a b : Nat} {off : Int} {tgt : Nat} (ha : a < 2 ^ 31) (hb : b < 2 ^ 31) (d : decode Y.2.1 pc = .ok (.if_icmp .ge off, 3)) (ht : (pc : Int) + off = (tgt : Int)) (kt : b ≤ a → zw_Z G Y R E Qf κ σ tgt ls st w) (kf : a < b → zw_Z G Y R E Qf κ σ (pc + 3) ls st w) : zw_Z G Y R E Qf κ σ pc ls (.int (nI b) :: .int (nI a) :: st) w := zr_icmp_ge d ht (fun z => kt ((nI_leI hb ha).mp z)) (fun z => kf (Nat.not_le.mp fun u => z ((nI_leI hb ha).mpr u)))
theorem zr_icmp_gt {x y : Int32} {off : Int} {tgt : Nat} (d : decode Y.2.1 pc = .ok (.if_icmp .gt off, 3)) (ht : (pc : Int) + off = (tgt : Int)) (kt : y < x → zw_Z G Y R E Qf κ σ tgt ls st w) (kf : ¬ y < x → zw_Z G Y R E Qf κ σ (pc + 3) ls st w) : zw_Z G Y R E Qf κ σ pc ls (.int y :: .int x :: st) w := fun p e s m args below meth c H locs ls' F N => lv_icmp_gt F.1 F.2.1 d ht (fun z => kt z p e s m args below meth c H locs ls' F N) (fun z => kf z p e s m args below meth c H locs ls' F N)
theorem zr_if_gt {x : Int32} {off : Int} {tgt : Nat} (d : decode Y.2.1 pc = .ok (.ifCond .gt off, 3)) (ht : (pc : Int) + off = (tgt : Int)) (kt : 0 < x → zw_Z G Y R E Qf κ σ tgt ls st w) (kf : ¬ 0 < x → zw_Z G Y R E Qf κ σ (pc + 3) ls st w) : zw_Z G Y R E Qf κ σ pc ls (.int x :: st) w := fun p e s m args below meth c H locs ls' F N => lv_if_gt F.1 F.2.1 d ht (fun z => kt z p e s m args below meth c H locs ls' F N) (fun z => kf z p e s m args below meth c H locs ls' F N)
theorem zr_icmp_gtN {a b : Nat} {off : Int} {tgt : Nat} (ha : a < 2 ^ 31) (hb : b < 2 ^ 31) (d : decode Y.2.1 pc = .ok (.if_icmp .gt off, 3)) (ht : (pc : Int) + off = (tgt : Int)) (kt : b < a → zw_Z G Y R E Qf κ σ tgt ls st w) (kf : a ≤ b → zw_Z G Y R E Qf κ σ (pc + 3) ls st w) : zw_Z G Y R E Qf κ σ pc ls (.int (nI b) :: .int (nI a) :: st) w := zr_icmp_gt d ht (fun z => kt ((nI_ltI hb ha).mp z)) (fun z => kf (Nat.not_lt.mp fun u => z ((nI_ltI hb ha).mpr u)))
theorem zr_icmp_le {x y : Int32} {off : Int} {tgt : Nat} (d : decode Y.2.1 pc = .ok (.if_icmp .le off, 3)) (ht : (pc : Int) + off = (tgt : Int)) (kt : x ≤ y → zw_Z G Y R E Qf κ σ tgt ls st w) (kf : ¬ x ≤ y → zw_Z G Y R E Qf κ σ (pc + 3) ls st w) : zw_Z G Y R E Qf κ σ pc ls (.int y :: .int x :: st) w := fun p e s m args below meth c H locs ls' F N => lv_icmp_le F.1 F.2.1 d ht (fun z => kt z p e s m args below meth c H locs ls' F N) (fun z => kf z p e s m args below meth c H locs ls' F N)
theorem zr_if_le {x : Int32} {off : Int} {tgt : Nat} (d : decode Y.2.1 pc = .ok (.ifCond .le off, 3)) (ht : (pc : Int) + off = (tgt : Int)) (kt : x ≤ 0 → zw_Z G Y R E Qf κ σ tgt ls st w) (kf : ¬ x ≤ 0 → zw_Z G Y R E Qf κ σ (pc + 3) ls st w) : zw_Z G Y R E Qf κ σ pc ls (.int x :: st) w := fun p e s m args below meth c H locs ls' F N => lv_if_le F.1 F.2.1 d ht (fun z => kt z p e s m args below meth c H locs ls' F N) (fun z => kf z p e s m args below meth c H locs ls' F N)
theorem zr_icmp_leN {a b : Nat} {off : Int} {tgt : Nat} (ha : a < 2 ^ 31) (hb : b < 2 ^ 31) (d : decode Y.2.1 pc = .ok (.if_icmp .le off, 3)) (ht : (pc : Int) + off = (tgt : Int)) (kt : a ≤ b → zw_Z G Y R E Qf κ σ tgt ls st w) (kf : b < a → zw_Z G Y R E Qf κ σ (pc + 3) ls st w) : zw_Z G Y R E Qf κ σ pc ls (.int (nI b) :: .int (nI a) :: st) w := zr_icmp_le d ht (fun z => kt ((nI_leI ha hb).mp z)) (fun z => kf (Nat.not_le.mp fun u => z ((nI_leI ha hb).mpr u)))
theorem zr_goto {off : Int} {tgt : Nat} (d : decode Y.2.1 pc = .ok (.goto off, 3)) (ht : (pc : Int) + off = (tgt : Int)) (k : zw_Z G Y R E Qf κ σ tgt ls st w) : zw_Z G Y R E Qf κ σ pc ls st w := fun p e s m args below meth c H locs ls' F N => lv_goto F.1 F.2.1 d ht (k p e s m args below meth c H locs ls' F N)
theorem zr_ifnull {i : Nat} {off : Int} (d : decode Y.2.1 pc = .ok (.ifnull off, 3)) (k : zw_Z G Y R E Qf κ σ (pc + 3) ls st w) : zw_Z G Y R E Qf κ σ pc ls (.ref i :: st) w := fun p e s m args below meth c H locs ls' F N => lv_ifnull F.1 F.2.1 d (k p e s m args below meth c H locs ls' F N)
theorem zr_ifnullN {off : Int} {tgt : Nat} (d : decode Y.2.1 pc = .ok (.ifnull off, 3)) (ht : (pc : Int) + off = (tgt : Int)) (k : zw_Z G Y R E Qf κ σ tgt ls st w) : zw_Z G Y R E Qf κ σ pc ls (.null :: st) w := fun p e s m args below meth c H locs ls' F N => lv_ifnullN F.1 F.2.1 d ht (k p e s m args below meth c H locs ls' F N)
theorem zr_ifnonnull {i : Nat} {off : Int} {tgt : Nat} (d : decode Y.2.1 pc = .ok (.ifnonnull off, 3)) (ht : (pc : Int) + off = (tgt : Int)) (k : zw_Z G Y R E Qf κ σ tgt ls st w) : zw_Z G Y R E Qf κ σ pc ls (.ref i :: st) w := fun p e s m args below meth c H locs ls' F N => lv_ifnonnull F.1 F.2.1 d ht (k p e s m args below meth c H locs ls' F N)
theorem zr_ifnonnullN {off : Int} (d : decode Y.2.1 pc = .ok (.ifnonnull off, 3)) (k : zw_Z G Y R E Qf κ σ (pc + 3) ls st w) : zw_Z G Y R E Qf κ σ pc ls (.null :: st) w := fun p e s m args below meth c H locs ls' F N => lv_ifnonnullN F.1 F.2.1 d (k p e s m args below meth c H locs ls' F N)
theorem zr_tableOut {dflt lo hi : Int} {offs : Array Int} {len : Nat} {x : Int32} {tgt : Nat} (d : decode Y.2.1 pc = .ok (.tableswitch dflt lo hi offs, len)) (h : x.toInt < lo ∨ hi < x.toInt) (ht : (pc : Int) + dflt = (tgt : Int)) (k : zw_Z G Y R E Qf κ σ tgt ls st w) : zw_Z G Y R E Qf κ σ pc ls (.int x :: st) w := fun p e s m args below meth c H locs ls' F N => lv_tableOut F.1 F.2.1 d h ht (k p e s m args below meth c H locs ls' F N)
theorem zr_tableIn {dflt lo hi : Int} {offs : Array Int} {len : Nat} {x : Int32} {off : Int} {tgt : Nat} (d : decode Y.2.1 pc = .ok (.tableswitch dflt lo hi offs, len)) (h1 : ¬ x.toInt < lo) (h2 : ¬ hi < x.toInt) (ho : offs[(x.toInt - lo).toNat]? = some off) (ht : (pc : Int) + off = (tgt : Int)) (k : zw_Z G Y R E Qf κ σ tgt ls st w) : zw_Z G Y R E Qf κ σ pc ls (.int x :: st) w := fun p e s m args below meth c H locs ls' F N => lv_tableIn F.1 F.2.1 d h1 h2 ho ht (k p e s m args below meth c H locs ls' F N)
theorem zr_top {v v2 : Value} (h : v = v2) (k : zw_Z G Y R E Qf κ σ pc ls (v2 :: st) w) : zw_Z G Y R E Qf κ σ pc ls (v :: st) w := h ▸ k
theorem zr_topI {x y : Int32} (h : x = y) (k : zw_Z G Y R E Qf κ σ pc ls (.int y :: st) w) : zw_Z G Y R E Qf κ σ pc ls (.int x :: st) w := h ▸ k
theorem zr_topL {x y : Int64} (h : x = y) (k : zw_Z G Y R E Qf κ σ pc ls (.long y :: st) w) : zw_Z G Y R E Qf κ σ pc ls (.long x :: st) w := h ▸ k
theorem zr_wld {w2 : zw_W} (h : w = w2) (k : zw_Z G Y R E Qf κ σ pc ls st w2) : zw_Z G Y R E Qf κ σ pc ls st w := h ▸ k
def zw_mask : List Bool → List (Option Value) → List (Option Value)
  | [], _ => []
  | _ :: _, [] => []
  | true :: m, x :: l => x :: zw_mask m l
  | false :: m, _ :: l => none :: zw_mask m l
theorem zw_mask_at : ∀ (m : List Bool) (l : List (Option Value)) (i : Nat) (v : Value), (zw_mask m l)[i]? = some (some v) → l[i]? = some (some v)
  | [], _, i, v, h => by simp [zw_mask] at h
  | _ :: _, [], i, v, h => by simp [zw_mask] at h
  | true :: m, x :: l, i, v, h => by
    cases i with
    | zero => exact h
    | succ i => exact zw_mask_at m l i v h
  | false :: m, x :: l, i, v, h => by
    cases i with
    | zero => cases h
    | succ i => exact zw_mask_at m l i v h
theorem zr_mask (mk : List Bool) (k : zw_Z G Y R E Qf κ σ pc (zw_mask mk ls) st w) : zw_Z G Y R E Qf κ σ pc ls st w := fun p e s m args below meth c H locs ls' F N => k p e s m args below meth c H locs ls' F ⟨N.1, N.2.1, N.2.2.1, N.2.2.2.less (zw_mask_at mk ls)⟩
theorem zr_widen {σ2 : Nat} (h2 : σ ≤ σ2) (k : zw_Z G Y R E Qf κ σ2 pc ls st w) : zw_Z G Y R E Qf κ σ pc ls st w := fun p e s m args below meth c H locs ls' F N => W.widen (Nat.le_refl κ) h2 (k p e s m args below meth c H locs ls' F N)
variable {mc ms : Nat} {P : Option Value → zw_W → Prop}
theorem zw_end {s t : State} {H : Heap} {locs : List Loc} {κ n : Nat} {ls : List (Option Value)} {ls' : Array Slot} {a : Array Value} {v : Option Value} (N : zw_N G n κ ls w s H locs ls') (hp : P v w) (ht : t.heap = H) : zw_q G P a s (.returned (v.map (zw_v G))) t := ⟨⟨v, w, rfl, hp, by rw [ht]; exact N.2.1⟩, N.2.2.1.F ht⟩
theorem zr_ireturn {v : Int32} {ty : FieldType} (d : decode Y.2.1 pc = .ok (.ireturn, 1)) (hr : Y.2.2.2 = some ty) (hn : narrow ty (.int v) = .int v) (hp : P (some (.int v)) w) : zw_Z G Y R E (zw_Q G mc ms P) mc ms pc ls [.int v] w := fun p e s m args below meth c H locs ls' F N => W.zret F.1 F.2.1 (F.2.2.2.1.trans hr) hn (fun t ht _ => zw_end (v := some (.int v)) N hp ht) N.2.2.1.2.2 d F.2.2.2.2.1
theorem zr_lreturn {v : Int64} (d : decode Y.2.1 pc = .ok (.lreturn, 1)) (hr : Y.2.2.2 = some .long) (hp : P (some (.long v)) w) : zw_Z G Y R E (zw_Q G mc ms P) mc ms pc ls [.long v] w := fun p e s m args below meth c H locs ls' F N => W.lret F.1 F.2.1 (F.2.2.2.1.trans hr) (fun t ht _ => zw_end (v := some (.long v)) N hp ht) N.2.2.1.2.2 d F.2.2.2.2.1
theorem zr_return (d : decode Y.2.1 pc = .ok (.return_, 1)) (hr : Y.2.2.2 = none) (hp : P none w) : zw_Z G Y R E (zw_Q G mc ms P) mc ms pc ls [] w := fun p e s m args below meth c H locs ls' F N => W.vret F.1 F.2.1 (F.2.2.2.1.trans hr) (fun t ht _ => zw_end (v := none) N hp ht) N.2.2.1.2.2 d F.2.2.2.2.1
theorem zr_areturn {v : Value} {ty : FieldType} (d : decode Y.2.1 pc = .ok (.areturn, 1)) (hr : Y.2.2.2 = some ty) (hty : (∃ n, ty = .object n) ∨ ∃ t, ty = .array t) (hv : zw_isA v = true) (hp : P (some v) w) : zw_Z G Y R E (zw_Q G mc ms P) mc ms pc ls [v] w := fun p e s m args below meth c H locs ls' F N => W.aret F.1 F.2.1 (F.2.2.2.1.trans hr) hty (by
    rcases zw_isA_or hv with rfl | ⟨i, rfl⟩
    · exact Or.inl rfl
    · exact Or.inr ⟨_, rfl⟩) (fun t ht _ => zw_end (v := some v) N hp ht) N.2.2.1.2.2 d F.2.2.2.2.1
end ZR
end
section
section ZH
variable {G : zw_G} {Y : zw_Y} {R : Room} {E : State → Prop} {Qf : zw_Qt} {κ σ pc : Nat} {ls : List (Option Value)} {st : List Value} {w : zw_W}
/-- what the tables say of a class of the worlds -/
def zw_cf (ci : Nat) (C : String) (T : u_T) (N : Nat) : Prop := vwCl[ci]? = some (C, T, N) ∧ (∀ x ∈ u_ws C T N, x ∈ zw_T) ∧ (∃ ty0 : Nat → FieldType, ∀ k, k < N → parseFieldDescriptor (T k).2.2.1 = some (ty0 k)) ∧ ∀ a, a < N → ∀ b, b < N → a ≠ b → (T a).2.1 ≠ (T b).2.1
/-- what they say of an entry of the pool that names a field: the k-th of the class ci -/
def zw_fl (own : String) (idx ci k : Nat) (ty : FieldType) (fin : Bool) : Prop := ∃ (C : String) (T : u_T) (N : Nat), zw_cf ci C T N ∧ k < N ∧ (Cond.fieldLink own idx (T k).1 (T k).2.1 (T k).2.2.1 ∈ zw_T ∨ ∃ host, Cond.fieldLinkNest own idx (T k).1 (T k).2.1 (T k).2.2.1 host ∈ zw_T) ∧ (T k).2.2.2 = fin ∧ parseFieldDescriptor (T k).2.2.1 = some ty ∧ (fin = true → (T k).1 = own ∧ Cond.fieldLink own idx (T k).1 (T k).2.1 (T k).2.2.1 ∈ zw_T)
def zw_fg (own : String) (idx ci k : Nat) : Prop := ∃ (C : String) (T : u_T) (N : Nat), zw_cf ci C T N ∧ k < N ∧ (Cond.fieldLink own idx (T k).1 (T k).2.1 (T k).2.2.1 ∈ zw_T ∨ ∃ host, Cond.fieldLinkNest own idx (T k).1 (T k).2.1 (T k).2.2.1 host ∈ zw_T)
theorem zr_getf {idx ci k i : Nat} {fs : List Value} {v : Value} (hf : zw_fg Y.1.cls idx ci k) (d : decode Y.2.1 pc = .ok (.getfield idx, 3)) (he : w[i]? = some (.inr (ci, fs))) (hv : fs[k]? = some v) (kk : zw_Z G Y R E Qf κ σ (pc + 3) ls (v :: st) w) : zw_Z G Y R E Qf κ σ pc ls (.ref (i + 1) :: st) w := by
  intro p e s m args below meth c H locs ls' F N
  obtain ⟨C, T, n, ⟨hc, hin, -, -⟩, hk, hl⟩ := hf
  obtain ⟨hx, hb, -, -, -, -, hown, hts, hK, -, -⟩ := id F
  have hv' : (fs.map (zw_v G))[k]? = some (zw_v G v) := by rw [List.getElem?_map, hv]; rfl
  rcases hl with hl | ⟨host, hl⟩
  · exact va_get hx hb hts hin hown hK N.2.1 i (zw_at he) hc k hk (hts _ hl) (fun _ h => h) hv' d (kk p e s m args below meth c H locs ls' F N)
  · exact va_getN hx hb hts hin hown hK N.2.1 i (zw_at he) hc k hk (hts _ hl) (fun _ h => h) hv' d (kk p e s m args below meth c H locs ls' F N)
theorem zw_setf {i ci k : Nat} {fs : List Value} {v : Value} : zw_w G (w.set i (.inr (ci, fs.set k v))) = (zw_w G w).set i (G.2.2.2.2 + i, .inr (ci, (fs.map (zw_v G)).set k (zw_v G v))) := by
  rw [zw_set, ← List.map_set]
  rfl
theorem zw_N.put {n : Nat} {s : State} {H H1 : Heap} {locs l1 : List Loc} {ls' : Array Slot} {i : Nat} {x : zw_C} (N : zw_N G n κ ls w s H locs ls') (hP : va_P G.2.1 vwCl ((zw_w G w).set i (G.2.2.2.2 + i, zw_e G x)) H1) (hS : va_S (fun q => G.2.2.2.2 ≤ q) s.heap H1 l1) : zw_N G n κ ls (w.set i x) s H1 l1 ls' :=
  ⟨by rw [List.length_set]; exact N.1, by rw [zw_set]; exact hP, hS, N.2.2.2⟩
theorem zr_putf {idx ci k i : Nat} {ty : FieldType} {fs : List Value} {v : Value} (hf : zw_fl Y.1.cls idx ci k ty false) (d : decode Y.2.1 pc = .ok (.putfield idx, 3)) (he : w[i]? = some (.inr (ci, fs))) (hl : k < fs.length) (hn : ∀ G : zw_G, narrow ty (zw_v G v) = zw_v G v) (hft : ∀ G : zw_G, fits ty (zw_v G v) = true) (kk : zw_Z G Y R E Qf κ σ (pc + 3) ls st (w.set i (.inr (ci, fs.set k v)))) : zw_Z G Y R E Qf κ σ pc ls (v :: .ref (i + 1) :: st) w := by
  intro p e s m args below meth c H locs ls' F N
  obtain ⟨C, T, n, ⟨hc, hin, ⟨ty0, hty⟩, hnm⟩, hk, hlk, hfin, hd, -⟩ := hf
  obtain ⟨hx, hb, -, -, -, -, hown, hts, hK, -, -⟩ := id F
  have hl' : k < (fs.map (zw_v G)).length := by rw [List.length_map]; exact hl
  have go : ∀ (H1 : Heap) (l1 : List Loc), va_P G.2.1 vwCl ((zw_w G w).set i (G.2.2.2.2 + i, .inr (ci, (fs.map (zw_v G)).set k (zw_v G v)))) H1 → va_S (fun q => G.2.2.2.2 ≤ q) s.heap H1 l1 → W p G.1 e R s m args below meth c H1 l1 κ σ (Qf below args s) (F0 m (pc + 3) ls' (st.map (zw_v G))) := fun H1 l1 hP hS =>
    kk p e s m args below meth c H1 l1 ls' F ⟨by rw [List.length_set]; exact N.1, by rw [zw_setf]; exact hP, hS, N.2.2.2⟩
  rcases hlk with hlk | ⟨host, hlk⟩
  · exact va_put hx hb hts hin ty0 hty hnm hown hK N.2.1 zw_D N.2.2.1 i (zw_at he) hc k hk (hts _ hlk) (fun _ h => h) hfin hd (hn G) (hft G) hl' d (fun H1 l1 hP _ hS => go H1 l1 hP hS)
  · exact va_putN hx hb hts hin ty0 hty hnm hown hK N.2.1 zw_D N.2.2.1 i (zw_at he) hc k hk (hts _ hlk) (fun _ h => h) hfin hd (hn G) (hft G) hl' d (fun H1 l1 hP _ hS => go H1 l1 hP hS)
theorem zr_putF {idx ci k i : Nat} {ty : FieldType} {fs : List Value} {v : Value} (hf : zw_fl Y.1.cls idx ci k ty true) (hi : Y.1.name = "<init>") (d : decode Y.2.1 pc = .ok (.putfield idx, 3)) (he : w[i]? = some (.inr (ci, fs))) (hl : k < fs.length) (hn : ∀ G : zw_G, narrow ty (zw_v G v) = zw_v G v) (hft : ∀ G : zw_G, fits ty (zw_v G v) = true) (kk : zw_Z G Y R E Qf κ σ (pc + 3) ls st (w.set i (.inr (ci, fs.set k v)))) : zw_Z G Y R E Qf κ σ pc ls (v :: .ref (i + 1) :: st) w := by
  intro p e s m args below meth c H locs ls' F N
  obtain ⟨C, T, n, ⟨hc, hin, ⟨ty0, hty⟩, hnm⟩, hk, -, hfin, hd, hw⟩ := hf
  obtain ⟨hx, hb, -, -, -, hnam, hown, hts, hK, -, -⟩ := id F
  have hl' : k < (fs.map (zw_v G)).length := by rw [List.length_map]; exact hl
  exact va_putF hx hb hts hin ty0 hty hnm hown hK N.2.1 zw_D N.2.2.1 i (zw_at he) hc k hk (hts _ (hw rfl).2) (fun _ h => h) hfin (hnam.trans hi) (hw rfl).1 hd (hn G) (hft G) hl' d (fun H1 l1 hP _ hS =>
    kk p e s m args below meth c H1 l1 ls' F ⟨by rw [List.length_set]; exact N.1, by rw [zw_setf]; exact hP, hS, N.2.2.2⟩)
/-- arrays: the index is a number below the length -/
theorem zr_iald {i j n : Nat} {f : Nat → Int32} (d : decode Y.2.1 pc = .ok (.iaload, 1)) (he : w[i]? = some (.inl (0, n, .inl f))) (hj : j < n) (hn : n < 2 ^ 31) (kk : zw_Z G Y R E Qf κ σ (pc + 1) ls (.int (f j) :: st) w) : zw_Z G Y R E Qf κ σ pc ls (.int (nI j) :: .ref (i + 1) :: st) w := by
  intro p e s m args below meth c H locs ls' F N
  refine va_iald F.1 F.2.1 F.2.2.2.2.2.2.2.2.1 N.2.1 i 0 (zw_at he) rfl (vp_in_nI hj hn) d ?_
  rw [nI_clamp (Nat.lt_trans hj hn)]
  exact kk p e s m args below meth c H locs ls' F N
theorem zr_lald {i j n : Nat} {f : Nat → Int64} (d : decode Y.2.1 pc = .ok (.laload, 1)) (he : w[i]? = some (.inl (1, n, .inr (.inl f)))) (hj : j < n) (hn : n < 2 ^ 31) (kk : zw_Z G Y R E Qf κ σ (pc + 1) ls (.long (f j) :: st) w) : zw_Z G Y R E Qf κ σ pc ls (.int (nI j) :: .ref (i + 1) :: st) w := by
  intro p e s m args below meth c H locs ls' F N
  refine va_lald F.1 F.2.1 F.2.2.2.2.2.2.2.2.1 N.2.1 i 1 (zw_at he) rfl (vp_in_nI hj hn) d ?_
  rw [nI_clamp (Nat.lt_trans hj hn)]
  exact kk p e s m args below meth c H locs ls' F N
theorem zw_rf {r : Option Nat} : va_rf (r.map (zw_ad G)) = zw_v G (va_rf r) := by cases r <;> rfl
theorem zr_aald {i j n : Nat} {f : Nat → Option Nat} (d : decode Y.2.1 pc = .ok (.aaload, 1)) (he : w[i]? = some (.inl (2, n, .inr (.inr (.inr (.inr f)))))) (hj : j < n) (hn : n < 2 ^ 31) (kk : zw_Z G Y R E Qf κ σ (pc + 1) ls (va_rf (f j) :: st) w) : zw_Z G Y R E Qf κ σ pc ls (.int (nI j) :: .ref (i + 1) :: st) w := by
  intro p e s m args below meth c H locs ls' F N
  refine va_aldq F.1 F.2.1 F.2.2.2.2.2.2.2.2.1 N.2.1 i 2 (zw_at he) rfl (vp_in_nI hj hn) d ?_
  rw [nI_clamp (Nat.lt_trans hj hn)]
  have := kk p e s m args below meth c H locs ls' F N
  rw [List.map_cons, ← zw_rf] at this
  exact this
theorem zr_aaldA {i j n : Nat} {f : Nat → Option Nat} (d : decode Y.2.1 pc = .ok (.aaload, 1)) (he : w[i]? = some (.inl (3, n, .inr (.inr (.inr (.inr f)))))) (hj : j < n) (hn : n < 2 ^ 31) (kk : zw_Z G Y R E Qf κ σ (pc + 1) ls (va_rf (f j) :: st) w) : zw_Z G Y R E Qf κ σ pc ls (.int (nI j) :: .ref (i + 1) :: st) w := by
  intro p e s m args below meth c H locs ls' F N
  have hc : H[G.2.2.2.2 + i]? = some (arrV (G.2.2.1 3) n (fun j => va_rf ((f j).map (zw_ad G)))) := N.2.1 i _ (zw_at he)
  refine W.aald (v := va_rf ((f j).map (zw_ad G))) (ty := .array .int) F.1 F.2.1 hc ((F.2.2.2.2.2.2.2.2.1.2 3 _ rfl).1 n (fun j => va_rf ((f j).map (zw_ad G)))) rfl (fun q => by cases q) (by rw [arrV_size]; exact vp_in_nI hj hn) (by rw [nI_clamp (Nat.lt_trans hj hn), arrV_read _ _ hj]) rfl rfl d ?_
  have := kk p e s m args below meth c H locs ls' F N
  rw [List.map_cons, ← zw_rf] at this
  exact this
theorem zr_alen {i k n : Nat} {a : vp_A} (d : decode Y.2.1 pc = .ok (.arraylength, 1)) (he : w[i]? = some (.inl (k, a))) (hk : k < 4) (hn : a.1 = n) (kk : zw_Z G Y R E Qf κ σ (pc + 1) ls (.int (nI n) :: st) w) : zw_Z G Y R E Qf κ σ pc ls (.ref (i + 1) :: st) w := by
  intro p e s m args below meth c H locs ls' F N
  have ha : (zw_a G a).1 = n := by
    rw [← hn]
    obtain ⟨n, f | f | f | f | f⟩ := a <;> rfl
  obtain ⟨ty, hty⟩ : ∃ ty, (zw_ty G)[k]? = some (G.2.2.1 k, ty) := by
    rcases (show k = 0 ∨ k = 1 ∨ k = 2 ∨ k = 3 by omega) with rfl | rfl | rfl | rfl <;> exact ⟨_, rfl⟩
  exact va_alen F.1 F.2.1 F.2.2.2.2.2.2.2.2.1 N.2.1 i k (zw_at he) hty (v := nI n) (by rw [ha]; rfl) d (kk p e s m args below meth c H locs ls' F N)
theorem zr_iast {i j n : Nat} {f : Nat → Int32} {x : Int32} (d : decode Y.2.1 pc = .ok (.iastore, 1)) (he : w[i]? = some (.inl (0, n, .inl f))) (hj : j < n) (hn : n < 2 ^ 31) (kk : zw_Z G Y R E Qf κ σ (pc + 1) ls st (w.set i (.inl (0, n, .inl (upd f j x))))) : zw_Z G Y R E Qf κ σ pc ls (.int x :: .int (nI j) :: .ref (i + 1) :: st) w := by
  intro p e s m args below meth c H locs ls' F N
  refine va_iast F.1 F.2.1 F.2.2.2.2.2.2.2.2.1 N.2.1 zw_D N.2.2.1 i 0 (zw_at he) rfl (vp_in_nI hj hn) d (fun H1 l1 hP _ hS => ?_)
  rw [nI_clamp (Nat.lt_trans hj hn)] at hP
  exact kk p e s m args below meth c H1 l1 ls' F (N.put hP hS)
theorem zr_last {i j n : Nat} {f : Nat → Int64} {x : Int64} (d : decode Y.2.1 pc = .ok (.lastore, 1)) (he : w[i]? = some (.inl (1, n, .inr (.inl f)))) (hj : j < n) (hn : n < 2 ^ 31) (kk : zw_Z G Y R E Qf κ σ (pc + 1) ls st (w.set i (.inl (1, n, .inr (.inl (vp_updL f j x)))))) : zw_Z G Y R E Qf κ σ pc ls (.long x :: .int (nI j) :: .ref (i + 1) :: st) w := by
  intro p e s m args below meth c H locs ls' F N
  refine va_last F.1 F.2.1 F.2.2.2.2.2.2.2.2.1 N.2.1 zw_D N.2.2.1 i 1 (zw_at he) rfl (vp_in_nI hj hn) d (fun H1 l1 hP _ hS => ?_)
  rw [nI_clamp (Nat.lt_trans hj hn)] at hP
  exact kk p e s m args below meth c H1 l1 ls' F (N.put hP hS)
theorem zw_upq {f : Nat → Option Nat} {j : Nat} {r : Option Nat} : (fun q => (va_up f j r q).map (zw_ad G)) = va_up (fun q => (f q).map (zw_ad G)) j (r.map (zw_ad G)) := by
  funext q
  unfold va_up
  split <;> rfl
theorem zr_aast {i j n q cd : Nat} {f : Nat → Option Nat} {vs : List Value} {T : u_T} {M : Nat} (d : decode Y.2.1 pc = .ok (.aastore, 1)) (he : w[i]? = some (.inl (2, n, .inr (.inr (.inr (.inr f)))))) (hj : j < n) (hn : n < 2 ^ 31) (hq : w[q]? = some (.inr (cd, vs))) (hc : vwCl[cd]? = some ("WordEvidence$Document", T, M)) (kk : zw_Z G Y R E Qf κ σ (pc + 1) ls st (w.set i (.inl (2, n, .inr (.inr (.inr (.inr (va_up f j (some (q + 1)))))))))) : zw_Z G Y R E Qf κ σ pc ls (.ref (q + 1) :: .int (nI j) :: .ref (i + 1) :: st) w := by
  intro p e s m args below meth c H locs ls' F N
  refine va_astq F.1 F.2.1 F.2.2.2.2.2.2.2.2.1 N.2.1 zw_D N.2.2.1 i 2 q cd (zw_at he) (r := ("WordEvidence$Document", T, M)) rfl (zw_at hq) hc (vp_in_nI hj hn) d (fun H1 l1 hP _ hS => ?_)
  rw [nI_clamp (Nat.lt_trans hj hn)] at hP
  refine kk p e s m args below meth c H1 l1 ls' F (N.put ?_ hS)
  show va_P G.2.1 vwCl ((zw_w G w).set i (G.2.2.2.2 + i, .inl (G.2.2.1 2, n, .inr (.inr (.inr (.inr (fun z => (va_up f j (some (q + 1)) z).map (zw_ad G)))))))) H1
  rw [zw_upq]
  exact hP
theorem zr_aastN {i j n : Nat} {f : Nat → Option Nat} (d : decode Y.2.1 pc = .ok (.aastore, 1)) (he : w[i]? = some (.inl (2, n, .inr (.inr (.inr (.inr f)))))) (hj : j < n) (hn : n < 2 ^ 31) (kk : zw_Z G Y R E Qf κ σ (pc + 1) ls st (w.set i (.inl (2, n, .inr (.inr (.inr (.inr (va_up f j none)))))))) : zw_Z G Y R E Qf κ σ pc ls (.null :: .int (nI j) :: .ref (i + 1) :: st) w := by
  intro p e s m args below meth c H locs ls' F N
  refine va_astqN F.1 F.2.1 F.2.2.2.2.2.2.2.2.1 N.2.1 zw_D N.2.2.1 i 2 (zw_at he) rfl (vp_in_nI hj hn) d (fun H1 l1 hP _ hS => ?_)
  rw [nI_clamp (Nat.lt_trans hj hn)] at hP
  refine kk p e s m args below meth c H1 l1 ls' F (N.put ?_ hS)
  show va_P G.2.1 vwCl ((zw_w G w).set i (G.2.2.2.2 + i, .inl (G.2.2.1 2, n, .inr (.inr (.inr (.inr (fun z => (va_up f j none z).map (zw_ad G)))))))) H1
  rw [zw_upq]
  exact hP
/-- a new cell lies behind all others -/
theorem zw_new {q : Nat} {e : va_E} {H1 : Heap} (hP : va_P G.2.1 vwCl (zw_w G w ++ [(q, e)]) H1) (hD : va_D (fun q => G.2.2.2.2 ≤ q) (zw_w G w ++ [(q, e)])) (hz : H1.size ≤ G.2.2.2.2 + w.length + 1) : q = G.2.2.2.2 + w.length := by
  have hl : (zw_w G w ++ [(q, e)])[w.length]? = some (q, e) := by
    rw [List.getElem?_append_right (by rw [zw_len]; exact Nat.le_refl _), zw_len, Nat.sub_self]
    rfl
  have h1 := (hP _ _ hl).lt
  have h2 := hD.2 _ _ hl
  simp only at h1 h2
  rcases Nat.lt_or_ge q (G.2.2.2.2 + w.length) with h | h
  · exfalso
    have hi : q - G.2.2.2.2 < w.length := by omega
    have h3 : (zw_w G w ++ [(q, e)])[q - G.2.2.2.2]? = some (G.2.2.2.2 + (q - G.2.2.2.2), zw_e G w[q - G.2.2.2.2]) := by
      rw [List.getElem?_append_left (by rw [zw_len]; exact hi)]
      exact zw_at (List.getElem?_eq_getElem hi)
    have h4 := hD.1 _ _ _ _ h3 hl (by simp only; omega)
    omega
  · omega
def zw_nw (own : String) (idx ci : Nat) (fs : List Value) : Prop := ∃ (C : String) (T : u_T) (N : Nat), zw_cf ci C T N ∧ Cond.classLink own idx C ∈ zw_T ∧ Cond.instantiable C N ∈ zw_T ∧ Cond.initialized C ∈ zw_T ∧ fs.length = N ∧ (∀ j, j < N → ∀ ty, parseFieldDescriptor (T j).2.2.1 = some ty → defaultValue ty = vp_V fs j) ∧ ∀ G : zw_G, fs.map (zw_v G) = fs
theorem zr_new {idx ci : Nat} {fs : List Value} (hf : zw_nw Y.1.cls idx ci fs) (d : decode Y.2.1 pc = .ok (.new idx, 3)) (hR : κ + 1 ≤ R.cells ∧ σ + fs.length ≤ R.slots) (kk : zw_Z G Y R E Qf (κ + 1) (σ + fs.length) (pc + 3) ls (.ref (w.length + 1) :: st) (w ++ [.inr (ci, fs)])) : zw_Z G Y R E Qf κ σ pc ls st w := by
  intro p e s m args below meth c H locs ls' F N
  obtain ⟨C, T, n, ⟨hc, hin, ⟨ty0, hty⟩, -⟩, h1, h2, h3, rfl, hd, hm⟩ := hf
  obtain ⟨hx, hb, -, -, -, -, hown, hts, hK, hbs, -⟩ := id F
  refine va_new hx hb hts hin ty0 hty hown (hts _ h1) (hts _ h2) (hts _ h3) hK N.2.1 zw_D N.2.2.1 (fun q h => Nat.le_trans hbs h) hc (fs := fs) (fun j hj => hd j hj _ (hty j hj)) hR.1 hR.2 d (fun q H1 hP hD hS => ?_)
  intro T1 hT X
  have hz := X.heapSize
  rw [hT] at hz
  have hq := zw_new hP hD (by have := N.1; omega)
  subst hq
  refine kk p e s m args below meth c H1 locs ls' F ⟨by rw [List.length_append]; have := N.1; simp; omega, ?_, hS, N.2.2.2⟩ T1 hT X
  rw [zw_app]
  show va_P G.2.1 vwCl (zw_w G w ++ [(G.2.2.2.2 + w.length, .inr (ci, fs.map (zw_v G)))]) H1
  rw [hm G]
  exact hP
theorem zw_one {D : va_G} {cl : List vw_C} {tys : List (ClassId × FieldType)} {s : State} {t0 : Nat} {cX cB : ClassId} {ty : FieldType} (hK : va_K D cl (tys ++ [(cB, ty)]) s) (ht : tys[t0]? = some (cX, ty)) : cB = cX := by
  have hl : t0 < tys.length := (List.getElem?_eq_some_iff.mp ht).1
  have h1 := (hK.2 t0 (cX, ty) (by rw [List.getElem?_append_left hl]; exact ht)).2
  have h2 := (hK.2 tys.length (cB, ty) (by simp)).2
  cases ty with
  | object C =>
    obtain ⟨kA, co, a1, a2, a3, a4⟩ := h1
    obtain ⟨kB, cp, b1, b2, b3, b4⟩ := h2
    exact Option.some.inj (b4.symm.trans a4)
  | _ => exact Option.some.inj (Eq.trans (Eq.symm h2) h1)
theorem zr_newI {n : Nat} (hw : Cond.arrayClass .int ∈ zw_T) (d : decode Y.2.1 pc = .ok (.newarray .int, 2)) (hn : n < 134217728) (hR : κ + 1 ≤ R.cells ∧ σ + n ≤ R.slots) (kk : zw_Z G Y R E Qf (κ + 1) (σ + n) (pc + 2) ls (.ref (w.length + 1) :: st) (w ++ [.inl (0, n, .inl (fun _ => 0))])) : zw_Z G Y R E Qf κ σ pc ls (.int (nI n) :: st) w := by
  intro p e s m args below meth c H locs ls' F N
  obtain ⟨hx, hb, -, -, -, -, hown, hts, hK, hbs, -⟩ := id F
  refine va_newa (atype := .int) hx hb (hts _ hw) (ty := .int) rfl hK N.2.1 zw_D N.2.2.1 (fun q h => Nat.le_trans hbs h) (N' := n) (a0 := (n, .inl (fun _ => 0))) (fun _ => rfl) (nI_pos (by omega)) (nI_clamp (by omega)) (by show n * 4 ≤ _; omega) hR.1 hR.2 d (fun q cX H1 hK2 hP hD hS => ?_)
  have hc := zw_one (t0 := 0) hK2 rfl
  subst hc
  intro T1 hT X
  have hz := X.heapSize
  rw [hT] at hz
  have hq := zw_new hP hD (by have := N.1; omega)
  subst hq
  exact kk p e s m args below meth c H1 locs ls' F ⟨by rw [List.length_append]; have := N.1; simp; omega, by rw [zw_app]; exact hP, hS, N.2.2.2⟩ T1 hT X
theorem zr_newL {n : Nat} (hw : Cond.arrayClass .long ∈ zw_T) (d : decode Y.2.1 pc = .ok (.newarray .long, 2)) (hn : n < 67108864) (hR : κ + 1 ≤ R.cells ∧ σ + n ≤ R.slots) (kk : zw_Z G Y R E Qf (κ + 1) (σ + n) (pc + 2) ls (.ref (w.length + 1) :: st) (w ++ [.inl (1, n, .inr (.inl (fun _ => 0)))])) : zw_Z G Y R E Qf κ σ pc ls (.int (nI n) :: st) w := by
  intro p e s m args below meth c H locs ls' F N
  obtain ⟨hx, hb, -, -, -, -, hown, hts, hK, hbs, -⟩ := id F
  refine va_newa (atype := .long) hx hb (hts _ hw) (ty := .long) rfl hK N.2.1 zw_D N.2.2.1 (fun q h => Nat.le_trans hbs h) (N' := n) (a0 := (n, .inr (.inl (fun _ => 0)))) (fun _ => rfl) (nI_pos (by omega)) (nI_clamp (by omega)) (by show n * 8 ≤ _; omega) hR.1 hR.2 d (fun q cX H1 hK2 hP hD hS => ?_)
  have hc := zw_one (t0 := 1) hK2 rfl
  subst hc
  intro T1 hT X
  have hz := X.heapSize
  rw [hT] at hz
  have hq := zw_new hP hD (by have := N.1; omega)
  subst hq
  exact kk p e s m args below meth c H1 locs ls' F ⟨by rw [List.length_append]; have := N.1; simp; omega, by rw [zw_app]; exact hP, hS, N.2.2.2⟩ T1 hT X
theorem zr_newD {n idx : Nat} (h1 : Cond.classLink Y.1.cls idx "WordEvidence$Document" ∈ zw_T) (h2 : Cond.arrayOver (.object "WordEvidence$Document") ∈ zw_T) (d : decode Y.2.1 pc = .ok (.anewarray idx, 3)) (hn : n < 134217728) (hR : κ + 1 ≤ R.cells ∧ σ + n ≤ R.slots) (kk : zw_Z G Y R E Qf (κ + 1) (σ + n) (pc + 3) ls (.ref (w.length + 1) :: st) (w ++ [.inl (2, n, .inr (.inr (.inr (.inr (fun _ => none)))))])) : zw_Z G Y R E Qf κ σ pc ls (.int (nI n) :: st) w := by
  intro p e s m args below meth c H locs ls' F N
  obtain ⟨hx, hb, -, -, -, -, hown, hts, hK, hbs, -⟩ := id F
  refine va_newq hx hb hown (hts _ h1) (va_AO.of (hts _ h2)) hK N.2.1 zw_D N.2.2.1 (fun q h => Nat.le_trans hbs h) (N' := n) (nI_pos (by omega)) (nI_clamp (by omega)) (by omega) hR.1 hR.2 d (fun q cX H1 hK2 hP hD hS => ?_)
  have hc := zw_one (t0 := 2) hK2 rfl
  subst hc
  intro T1 hT X
  have hz := X.heapSize
  rw [hT] at hz
  have hq := zw_new hP hD (by have := N.1; omega)
  subst hq
  exact kk p e s m args below meth c H1 locs ls' F ⟨by rw [List.length_append]; have := N.1; simp; omega, by rw [zw_app]; exact hP, hS, N.2.2.2⟩ T1 hT X
theorem zr_objInit {idx i : Nat} (h1 : Cond.methodLink Y.1.cls idx Lib.objectInit ∈ zw_T) (h2 : Cond.instanceMethod Lib.objectInit ∈ zw_T) (h3 : Cond.code Lib.objectInit ⟨#[0xb1]⟩ 1 none ∈ zw_T) (d : decode Y.2.1 pc = .ok (.invokespecial idx, 3)) (hR : 1 ≤ R.frames ∧ (st.map fun v => v.category).sum + 12 ≤ R.locals) (kk : zw_Z G Y R E Qf κ σ (pc + 3) ls st w) : zw_Z G Y R E Qf κ σ pc ls (.ref i :: st) w := by
  intro p e s m args below meth c H locs ls' F N
  obtain ⟨hx, hb, hml, -, -, -, hown, hts, hK, hbs, -⟩ := id F
  refine W.objInit hx hb hown (hts _ h1) (hts _ h2) (hts _ h3) rfl (by rw [hml]; exact N.2.2.2.1) rfl d hR.1 ?_ (kk p e s m args below meth c H locs ls' F N)
  show 2 * 0 + ((st.map (zw_v G)).map fun v => v.category).sum + 12 ≤ R.locals
  rw [List.map_map, show ((fun v : Value => v.category) ∘ zw_v G) = fun v => v.category from funext (fun v => zw_cat v)]
  omega
/-- calls -/
def zw_push (v : Option Value) (r : List Value) : List Value := match v with
  | none => r
  | some x => x :: r
abbrev zw_is (v0 : Option Value) (w0 : zw_W) : Option Value → zw_W → Prop := fun v w => v = v0 ∧ w = w0
def zw_y (Y : zw_Y) (n : Nat) : Prop := Cond.code Y.1 Y.2.1 Y.2.2.1 Y.2.2.2 ∈ zw_T ∧ Cond.initialized Y.1.cls ∈ zw_T ∧ plainName Y.1.cls = true ∧ (Y.1.cls ≠ "java/lang/invoke/MethodHandle" ∧ Y.1.cls ≠ "java/lang/invoke/VarHandle") ∧ (parseMethodDescriptor Y.1.desc).map (fun d => d.parameters.length) = some n
def zw_lk (own : String) (idx : Nat) (y : MethodName) : Prop := Cond.methodLink own idx y ∈ zw_T ∨ ∃ host, Cond.methodLinkNest own idx y host ∈ zw_T
abbrev zw_ck (R : Room) (d n κ σ mc ms : Nat) : Prop := d + 1 ≤ R.frames ∧ 8 + (n + 11) + 40 * d ≤ R.locals ∧ κ + mc ≤ R.cells ∧ σ + ms ≤ R.slots
theorem zw_back {p : Program} {e : Env} {s : State} {m : MethodId} {args : Array Value} {below : List Frame} {meth : Method} {c : Code} {H : Heap} {locs : List Loc} {ls' : Array Slot} {mc ms : Nat} {st0 rest : List Value} {a : Array Value} {P : Option Value → zw_W → Prop} {Q : State → Prop}
    (hr : va_Run p G.1 e R s m args below meth c H locs κ σ mc ms (F0 m pc ls' st0) rest (zw_q G P a) (fun q => G.2.2.2.2 ≤ q)) (hS : va_S (fun q => G.2.2.2.2 ≤ q) s.heap H locs)
    (kk : ∀ (v : Option Value) (w2 : zw_W) (H1 : Heap) (l1 : List Loc), P v w2 → va_P G.2.1 vwCl (zw_w G w2) H1 → va_S (fun q => G.2.2.2.2 ≤ q) s.heap H1 l1 → W p G.1 e R s m args below meth c H1 l1 (κ + mc) (σ + ms) Q (F0 m (pc + 3) ls' ((v.map (zw_v G)).toList ++ rest))) : W p G.1 e R s m args below meth c H locs κ σ Q (F0 m pc ls' st0) := by
  intro T hT X
  obtain ⟨v, st₀, t, T', L, h0, X', hL, e1, e2, ⟨⟨v2, w2, hv, hp, hP⟩, hz, hk⟩, st⟩ := hr T hT X
  obtain rfl : v = v2.map (zw_v G) := by injection hv
  rw [h0] at hz hk
  obtain ⟨t2, a1, b1⟩ := kk v2 w2 T'.heap (locs ++ L) hp (by rw [e1]; exact hP) ⟨Nat.le_trans hS.1 (by rw [e1]; exact hz), fun q g1 g2 => by rw [e1, hk q (Nat.lt_of_lt_of_le g1 hS.1) g2]; exact hS.2.1 q g1 g2, fun q hq => by
      rcases List.mem_append.mp hq with h | h
      · exact hS.2.2 q h
      · exact hL q h⟩ T' rfl X'
  exact ⟨t2, st t2 a1, b1⟩
theorem zw_words {Y2 : zw_Y} {n : Nat} {args : Array Value} {s : State} (hy : zw_y Y2 n) (hts : ∀ w ∈ zw_T, w.before args s = true) : (∀ w ∈ [Cond.code Y2.1 Y2.2.1 Y2.2.2.1 Y2.2.2.2], ∀ (a' : Array Value) (U : State), s.WarmedH U.vm → w.before a' U = true) := by
  intro w hw a' U hW
  rw [List.mem_singleton] at hw
  subst hw
  exact zw_T_warm hW hts _ hy.1
theorem zw_npar {Y2 : zw_Y} {n : Nat} (hy : zw_y Y2 n) : ∀ sig, parseMethodDescriptor Y2.1.desc = some sig → n = sig.parameters.length := by
  intro sig h
  have h2 := hy.2.2.2.2
  rw [h] at h2
  exact (Option.some.inj h2).symm
theorem zw_room {rest : List Value} {m : MethodId} {pc : Nat} {ls' : Array Slot} {st0 : List Value} (h : (rest.map fun v => v.category).sum ≤ 8) : 2 * (F0 m pc ls' st0).monitorRoom + ((rest.map (zw_v G)).map fun v => v.category).sum ≤ 8 := by
  refine lv_room ?_
  rw [List.map_map, show ((fun v : Value => v.category) ∘ zw_v G) = fun v => v.category from funext (fun v => zw_cat v)]
  exact h
variable {Y2 : zw_Y} {n d mc ms idx : Nat} {As rest : List Value} {P : Option Value → zw_W → Prop}
theorem zr_invS (hM : zw_Met G Y2 d mc ms As w P) (hy : zw_y Y2 n) (hk : zw_lk Y.1.cls idx Y2.1) (hv : Cond.static Y2.1 ∈ zw_T) (dg : decode Y.2.1 pc = .ok (.invokestatic idx, 3)) (hn : As.length = n) (hsp : (zw_sp As).length ≤ Y2.2.2.1) (hR : zw_ck R d Y2.2.2.1 κ σ mc ms) (hrest : (rest.map fun v => v.category).sum ≤ 8) (hst : As.reverse ++ rest = st)
    (kk : ∀ (v : Option Value) (w2 : zw_W), P v w2 → w2.length = w.length + mc ∧ zw_Z G Y R E Qf (κ + mc) (σ + ms) (pc + 3) ls (zw_push v rest) w2) : zw_Z G Y R E Qf κ σ pc ls st w := by
  intro p e s m args below meth c H locs ls' F N T hT X
  obtain ⟨hx, hb, hml, -, -, -, hown, hts, hK, hbs, -⟩ := id F
  have hz := zw_size hbs N hT X
  have hMet := zw_met hy.2.2.1 hsp hM
  have hp := zw_preS (As := As.map (zw_v G)) hts hK hz N.2.1
  have hs : st.map (zw_v G) = (As.map (zw_v G)).reverse ++ rest.map (zw_v G) := by rw [← hst, List.map_append, List.map_reverse]
  have fin : ∀ (v : Option Value) (w2 : zw_W) (H1 : Heap) (l1 : List Loc), P v w2 → va_P G.2.1 vwCl (zw_w G w2) H1 → va_S (fun q => G.2.2.2.2 ≤ q) s.heap H1 l1 → W p G.1 e R s m args below meth c H1 l1 (κ + mc) (σ + ms) (Qf below args s) (F0 m (pc + 3) ls' ((v.map (zw_v G)).toList ++ rest.map (zw_v G))) := fun v w2 H1 l1 hpv hP hS => by
    obtain ⟨g1, g2⟩ := kk v w2 hpv
    have := g2 p e s m args below meth c H1 l1 ls' F ⟨by have := N.1; omega, hP, hS, N.2.2.2⟩
    cases v <;> exact this
  rcases hk with hk | ⟨host, hk⟩
  · exact zw_back (va_runS (Ts := zw_T) (nL := Y.2.2.1) ⟨hx, hb, hml, hown, hts⟩ hMet ⟨⟨rfl, rfl, hR.1, hR.2.1, zw_words hy hts, List.mem_singleton.mpr rfl, hts _ hy.1, hts _ hy.2.1, hy.2.2.2.1, zw_npar hy, hts _ hk⟩, hts _ hv⟩ hp rfl (by rw [List.length_map]; exact hn) N.2.2.2.1 hs (zw_room hrest) dg ⟨hR.2.2.1, hR.2.2.2⟩) N.2.2.1 fin T hT X
  · exact zw_back (va_runSN (Ts := zw_T) (nL := Y.2.2.1) ⟨hx, hb, hml, hown, hts⟩ hMet ⟨⟨⟨rfl, rfl, hR.1, hR.2.1, zw_words hy hts, List.mem_singleton.mpr rfl⟩, hts _ hy.1, hts _ hy.2.1, hy.2.2.2.1, zw_npar hy, hts _ hk⟩, hts _ hv, trivial⟩ hp rfl (by rw [List.length_map]; exact hn) N.2.2.2.1 hs (zw_room hrest) dg ⟨hR.2.2.1, hR.2.2.2⟩) N.2.2.1 fin T hT X
theorem zr_invV {i ci : Nat} {fs : List Value} {T0 : u_T} {N0 : Nat} (hM : zw_Met G Y2 d mc ms (.ref (i + 1) :: As) w P) (hy : zw_y Y2 n) (hk : zw_lk Y.1.cls idx Y2.1) (hv : Cond.instanceMethod Y2.1 ∈ zw_T ∧ Cond.selects Y2.1.cls Y2.1 Y2.1 ∈ zw_T) (hc : vwCl[ci]? = some (Y2.1.cls, T0, N0)) (he : w[i]? = some (.inr (ci, fs))) (dg : decode Y.2.1 pc = .ok (.invokevirtual idx, 3)) (hn : As.length = n) (hsp : (zw_sp (.ref (i + 1) :: As)).length ≤ Y2.2.2.1) (hR : zw_ck R d Y2.2.2.1 κ σ mc ms) (hrest : (rest.map fun v => v.category).sum ≤ 8) (hst : As.reverse ++ .ref (i + 1) :: rest = st)
    (kk : ∀ (v : Option Value) (w2 : zw_W), P v w2 → w2.length = w.length + mc ∧ zw_Z G Y R E Qf (κ + mc) (σ + ms) (pc + 3) ls (zw_push v rest) w2) : zw_Z G Y R E Qf κ σ pc ls st w := by
  intro p e s m args below meth c H locs ls' F N T hT X
  obtain ⟨hx, hb, hml, -, -, -, hown, hts, hK, hbs, -⟩ := id F
  have hz := zw_size hbs N hT X
  have hMet := zw_met hy.2.2.1 hsp hM
  have hp0 := zw_preS (As := (Value.ref (i + 1) :: As).map (zw_v G)) hts hK hz N.2.1
  have hp : PreV s H Y2.1.cls (G.2.2.2.2 + i) (va_Pc ((Value.ref (i + 1) :: As).map (zw_v G)) (zw_Pre G w)) (As.map (zw_v G)) := ⟨hp0.1, va_recv hK N.2.1 hc (zw_at he), hp0.2⟩
  have hs : st.map (zw_v G) = (As.map (zw_v G)).reverse ++ .ref (G.2.2.2.2 + i) :: rest.map (zw_v G) := by rw [← hst, List.map_append, List.map_reverse]; rfl
  have fin : ∀ (v : Option Value) (w2 : zw_W) (H1 : Heap) (l1 : List Loc), P v w2 → va_P G.2.1 vwCl (zw_w G w2) H1 → va_S (fun q => G.2.2.2.2 ≤ q) s.heap H1 l1 → W p G.1 e R s m args below meth c H1 l1 (κ + mc) (σ + ms) (Qf below args s) (F0 m (pc + 3) ls' ((v.map (zw_v G)).toList ++ rest.map (zw_v G))) := fun v w2 H1 l1 hpv hP hS => by
    obtain ⟨g1, g2⟩ := kk v w2 hpv
    have := g2 p e s m args below meth c H1 l1 ls' F ⟨by have := N.1; omega, hP, hS, N.2.2.2⟩
    cases v <;> exact this
  rcases hk with hk | ⟨host, hk⟩
  · exact zw_back (va_runV (C := Y2.1.cls) (Ts := zw_T) (nL := Y.2.2.1) ⟨hx, hb, hml, hown, hts⟩ hMet ⟨⟨rfl, rfl, hR.1, hR.2.1, zw_words hy hts, List.mem_singleton.mpr rfl, hts _ hy.1, hts _ hy.2.1, hy.2.2.2.1, zw_npar hy, hts _ hk⟩, hts _ hv.1, hts _ hv.2⟩ hp rfl (by rw [List.length_map]; exact hn) N.2.2.2.1 hs (zw_room hrest) dg ⟨hR.2.2.1, hR.2.2.2⟩) N.2.2.1 fin T hT X
  · exact zw_back (va_runVN (C := Y2.1.cls) (Ts := zw_T) (nL := Y.2.2.1) ⟨hx, hb, hml, hown, hts⟩ hMet ⟨⟨⟨rfl, rfl, hR.1, hR.2.1, zw_words hy hts, List.mem_singleton.mpr rfl⟩, hts _ hy.1, hts _ hy.2.1, hy.2.2.2.1, zw_npar hy, hts _ hk⟩, hts _ hv.1, hts _ hv.2⟩ hp rfl (by rw [List.length_map]; exact hn) N.2.2.2.1 hs (zw_room hrest) dg ⟨hR.2.2.1, hR.2.2.2⟩) N.2.2.1 fin T hT X
theorem zr_invI {i : Nat} (hM : zw_Met G Y2 d mc ms (.ref (i + 1) :: As) w P) (hy : zw_y Y2 n) (hk : zw_lk Y.1.cls idx Y2.1) (hv : Y2.1.name = "<init>" ∧ Cond.instanceMethod Y2.1 ∈ zw_T) (hnone : Y2.2.2.2 = none) (dg : decode Y.2.1 pc = .ok (.invokespecial idx, 3)) (hn : As.length = n) (hsp : (zw_sp (.ref (i + 1) :: As)).length ≤ Y2.2.2.1) (hR : zw_ck R d Y2.2.2.1 κ σ mc ms) (hrest : (rest.map fun v => v.category).sum ≤ 8) (hst : As.reverse ++ .ref (i + 1) :: rest = st)
    (kk : ∀ (v : Option Value) (w2 : zw_W), P v w2 → w2.length = w.length + mc ∧ zw_Z G Y R E Qf (κ + mc) (σ + ms) (pc + 3) ls (zw_push v rest) w2) : zw_Z G Y R E Qf κ σ pc ls st w := by
  intro p e s m args below meth c H locs ls' F N T hT X
  obtain ⟨hx, hb, hml, -, -, -, hown, hts, hK, hbs, -⟩ := id F
  have hz := zw_size hbs N hT X
  have hMet := zw_met hy.2.2.1 hsp hM
  have hp : PreS s H (va_Pc ((Value.ref (i + 1) :: As).map (zw_v G)) (zw_Pre G w)) (.ref (G.2.2.2.2 + i) :: As.map (zw_v G)) := zw_preS (As := (Value.ref (i + 1) :: As).map (zw_v G)) hts hK hz N.2.1
  have hs : st.map (zw_v G) = (As.map (zw_v G)).reverse ++ .ref (G.2.2.2.2 + i) :: rest.map (zw_v G) := by rw [← hst, List.map_append, List.map_reverse]; rfl
  have fin : ∀ (v : Option Value) (w2 : zw_W) (H1 : Heap) (l1 : List Loc), P v w2 → va_P G.2.1 vwCl (zw_w G w2) H1 → va_S (fun q => G.2.2.2.2 ≤ q) s.heap H1 l1 → W p G.1 e R s m args below meth c H1 l1 (κ + mc) (σ + ms) (Qf below args s) (F0 m (pc + 3) ls' ((v.map (zw_v G)).toList ++ rest.map (zw_v G))) := fun v w2 H1 l1 hpv hP hS => by
    obtain ⟨g1, g2⟩ := kk v w2 hpv
    have := g2 p e s m args below meth c H1 l1 ls' F ⟨by have := N.1; omega, hP, hS, N.2.2.2⟩
    cases v <;> exact this
  rw [hnone] at hMet
  have hcd := hy.1
  rw [hnone] at hcd
  have hwd := zw_words hy hts
  rw [hnone] at hwd
  rcases hk with hk | ⟨host, hk⟩
  · exact zw_back (va_runI (Ts := zw_T) (nL := Y.2.2.1) ⟨hx, hb, hml, hown, hts⟩ hMet ⟨⟨rfl, rfl, hR.1, hR.2.1, hwd, List.mem_singleton.mpr rfl, hts _ hcd, hts _ hy.2.1, hy.2.2.2.1, zw_npar hy, hts _ hk⟩, hv.1, hts _ hv.2⟩ hp rfl (by rw [List.length_map]; exact hn) N.2.2.2.1 hs (zw_room hrest) dg ⟨hR.2.2.1, hR.2.2.2⟩) N.2.2.1 fin T hT X
  · exact zw_back (va_runIN (Ts := zw_T) (nL := Y.2.2.1) ⟨hx, hb, hml, hown, hts⟩ hMet ⟨⟨⟨rfl, rfl, hR.1, hR.2.1, hwd, List.mem_singleton.mpr rfl⟩, hts _ hcd, hts _ hy.2.1, hy.2.2.2.1, zw_npar hy, hts _ hk⟩, hv.1, hts _ hv.2⟩ hp rfl (by rw [List.length_map]; exact hn) N.2.2.2.1 hs (zw_room hrest) dg ⟨hR.2.2.1, hR.2.2.2⟩) N.2.2.1 fin T hT X
/-- System.arraycopy of longs; Math.max, Math.min -/
theorem zr_copyl {i j a b k n0 n1 : Nat} {f g : Nat → Int64} (h1 : Cond.methodLink Y.1.cls idx arraycopyName ∈ zw_T) (h2 : Cond.native arraycopyName ∈ zw_T) (h3 : Cond.static arraycopyName ∈ zw_T) (h4 : Cond.initialized "java/lang/System" ∈ zw_T) (dg : decode Y.2.1 pc = .ok (.invokestatic idx, 3)) (hi : w[i]? = some (.inl (1, n0, .inr (.inl f)))) (hj : w[j]? = some (.inl (1, n1, .inr (.inl g)))) (ha : a + k ≤ n0) (hb : b + k ≤ n1) (hl : n0 < 2 ^ 31 ∧ n1 < 2 ^ 31) (hR : 1 ≤ R.frames ∧ (rest.map fun v => v.category).sum + (nativeFrameWords "java/lang/System" "arraycopy" 5 + 11) ≤ R.locals)
    (kk : zw_Z G Y R E Qf κ σ (pc + 3) ls rest (w.set j (.inl (1, n1, .inr (.inl (va_cpy f g a b k)))))) : zw_Z G Y R E Qf κ σ pc ls (.int (nI k) :: .int (nI b) :: .ref (j + 1) :: .int (nI a) :: .ref (i + 1) :: rest) w := by
  intro p e s m args below meth c H locs ls' F N
  obtain ⟨hx, hbb, hml, -, -, -, hown, hts, hK, hbs, -⟩ := id F
  have ca : (nI a).toNatClampNeg = a := nI_clamp (by omega)
  have cb : (nI b).toNatClampNeg = b := nI_clamp (by omega)
  have ck : (nI k).toNatClampNeg = k := nI_clamp (by omega)
  refine va_copyl hx hbb (by rw [hml]; exact N.2.2.2.1.symm) hown (hts _ h1) (hts _ h2) (hts _ h3) (hts _ h4) hK N.2.1 zw_D N.2.2.1 i j 1 1 (ty := .long) (zw_at hi) (zw_at hj) rfl rfl rfl (nI_pos (by omega)) (nI_pos (by omega)) (nI_pos (by omega)) (by rw [ca, ck]; exact ha) (by rw [cb, ck]; exact hb) (fun _ _ => rfl) hR.1 ?_ dg (fun H1 l1 hP _ hS => ?_)
  · rw [List.map_map, show ((fun v : Value => v.category) ∘ zw_v G) = fun v => v.category from funext (fun v => zw_cat v)]
    exact hR.2
  · rw [ca, cb, ck] at hP
    exact kk p e s m args below meth c H1 l1 ls' F (N.put hP hS)
theorem zr_mmax {x y : Int32} (h1 : Cond.methodLink Y.1.cls idx Lib.Math.max.name ∈ zw_T) (h2 : Cond.static Lib.Math.max.name ∈ zw_T) (h3 : Cond.initialized "java/lang/Math" ∈ zw_T) (h4 : Cond.code Lib.Math.max.name Lib.Math.max.code 2 (some .int) ∈ zw_T) (dg : decode Y.2.1 pc = .ok (.invokestatic idx, 3)) (hR : 1 ≤ R.frames ∧ (rest.map fun v => v.category).sum + 13 ≤ R.locals ∧ κ ≤ R.cells ∧ σ ≤ R.slots)
    (kk : zw_Z G Y R E Qf κ σ (pc + 3) ls (.int (if x < y then y else x) :: rest) w) : zw_Z G Y R E Qf κ σ pc ls (.int y :: .int x :: rest) w := by
  intro p e s m args below meth c H locs ls' F N
  obtain ⟨hx, hbb, hml, -, -, -, hown, hts, hK, hbs, -⟩ := id F
  refine va_mmax hx hbb (by rw [hml]; exact N.2.2.2.1.symm) hown (hts _ h1) (hts _ h2) (hts _ h3) (hts _ h4) hR.1 ?_ hR.2.2.1 hR.2.2.2 dg (kk p e s m args below meth c H locs ls' F N)
  rw [List.map_map, show ((fun v : Value => v.category) ∘ zw_v G) = fun v => v.category from funext (fun v => zw_cat v)]
  exact hR.2.1
theorem zr_mmin {x y : Int32} (h1 : Cond.methodLink Y.1.cls idx Lib.Math.min.name ∈ zw_T) (h2 : Cond.static Lib.Math.min.name ∈ zw_T) (h3 : Cond.initialized "java/lang/Math" ∈ zw_T) (h4 : Cond.code Lib.Math.min.name Lib.Math.min.code 2 (some .int) ∈ zw_T) (dg : decode Y.2.1 pc = .ok (.invokestatic idx, 3)) (hR : 1 ≤ R.frames ∧ (rest.map fun v => v.category).sum + 13 ≤ R.locals ∧ κ ≤ R.cells ∧ σ ≤ R.slots)
    (kk : zw_Z G Y R E Qf κ σ (pc + 3) ls (.int (if y < x then y else x) :: rest) w) : zw_Z G Y R E Qf κ σ pc ls (.int y :: .int x :: rest) w := by
  intro p e s m args below meth c H locs ls' F N
  obtain ⟨hx, hbb, hml, -, -, -, hown, hts, hK, hbs, -⟩ := id F
  refine va_mmin hx hbb (by rw [hml]; exact N.2.2.2.1.symm) hown (hts _ h1) (hts _ h2) (hts _ h3) (hts _ h4) hR.1 ?_ hR.2.2.1 hR.2.2.2 dg (kk p e s m args below meth c H locs ls' F N)
  rw [List.map_map, show ((fun v : Value => v.category) ∘ zw_v G) = fun v => v.category from funext (fun v => zw_cat v)]
  exact hR.2.1
end ZH
end
section
/-! clone of a long[], and the cast behind it -/
section ZL
variable {G : zw_G} {Y : zw_Y} {R : Room} {E : State → Prop} {Qf : zw_Qt} {κ σ pc : Nat} {ls : List (Option Value)} {st : List Value} {w : zw_W} {idx : Nat}
theorem zr_clone {i n : Nat} {f : Nat → Int64} (h1 : Cond.methodLink Y.1.cls idx ⟨"[J", "clone", "()Ljava/lang/Object;"⟩ ∈ zw_T) (h2 : Cond.sameMethod "[J" "java/lang/Object" "clone" "()Ljava/lang/Object;" ∈ zw_T) (h3 : Cond.native ⟨"java/lang/Object", "clone", "()Ljava/lang/Object;"⟩ ∈ zw_T) (h4 : Cond.instanceMethod ⟨"java/lang/Object", "clone", "()Ljava/lang/Object;"⟩ ∈ zw_T) (h5 : Cond.selects "[J" ⟨"[J", "clone", "()Ljava/lang/Object;"⟩ ⟨"java/lang/Object", "clone", "()Ljava/lang/Object;"⟩ ∈ zw_T) (h6 : Cond.castable "[J" "java/lang/Cloneable" ∈ zw_T)
    (d : decode Y.2.1 pc = .ok (.invokevirtual idx, 3)) (he : w[i]? = some (.inl (1, n, .inr (.inl f)))) (hR : 1 ≤ R.frames ∧ (st.map fun v => v.category).sum + 14 ≤ R.locals ∧ κ + 1 ≤ R.cells ∧ σ + n ≤ R.slots)
    (kk : zw_Z G Y R E Qf (κ + 1) (σ + n) (pc + 3) ls (.ref (w.length + 1) :: st) (w ++ [.inl (1, n, .inr (.inl f))])) : zw_Z G Y R E Qf κ σ pc ls (.ref (i + 1) :: st) w := by
  intro p e s m args below meth c H locs ls' F N
  obtain ⟨hx, hb, hml, -, -, -, hown, hts, hK, hbs, -⟩ := id F
  refine va_clone hx hb (by rw [hml]; exact N.2.2.2.1.symm) hown (hts _ h1) (hts _ h2) (hts _ h3) (hts _ h4) (hts _ h5) (va_Nw.of rfl (hts _ h6)) hK N.2.1 zw_D N.2.2.1 (fun q h => Nat.le_trans hbs h) i 1 (ty := .long) (zw_at he) rfl (hK.2 1 _ rfl).2 (fun j v hv => ?_) hR.1 ?_ hR.2.2.1 hR.2.2.2 d (fun q H1 hK2 hP hD hS => ?_)
  · have hv2 : (arrV (G.2.2.1 1) n (fun j => .long (f j))).slots[j]? = some v := hv
    by_cases hj : j < n
    · rw [arrV_read _ _ hj] at hv2
      cases hv2
      rfl
    · have hz := (Array.getElem?_eq_some_iff.mp hv2).1
      rw [arrV_size] at hz
      exact absurd hz hj
  · rw [List.map_map, show ((fun v : Value => v.category) ∘ zw_v G) = fun v => v.category from funext (fun v => zw_cat v)]
    exact hR.2.1
  · intro T1 hT X
    have hz := X.heapSize
    rw [hT] at hz
    have hq := zw_new hP hD (by have := N.1; omega)
    subst hq
    exact kk p e s m args below meth c H1 locs ls' F ⟨by rw [List.length_append]; have := N.1; simp; omega, by rw [zw_app]; exact hP, hS, N.2.2.2⟩ T1 hT X
theorem zr_castJ {i : Nat} {a : vp_A} (h1 : Cond.classLink Y.1.cls idx "[J" ∈ zw_T) (d : decode Y.2.1 pc = .ok (.checkcast idx, 3)) (he : w[i]? = some (.inl (1, a))) (kk : zw_Z G Y R E Qf κ σ (pc + 3) ls (.ref (i + 1) :: st) w) : zw_Z G Y R E Qf κ σ pc ls (.ref (i + 1) :: st) w := by
  intro p e s m args below meth c H locs ls' F N
  obtain ⟨hx, hb, hml, -, -, -, hown, hts, hK, hbs, -⟩ := id F
  exact va_castA hx hb hown (hts _ h1) N.2.1 i (zw_at he) (hK.2 1 _ rfl).2 d (kk p e s m args below meth c H locs ls' F N)
end ZL
end
section
/-! new int[4][20]: the outer array, then its four rows. -/
section ZM
def zm_in (cB : ClassId) : Cell := arrV cB 20 (fun _ => .int 0)
def zm_out (cX : ClassId) (h i : Nat) : Cell := arrV cX 4 (fun j => if j < i then .ref (h + 1 + j) else .null)
def zm_fill (s : State) (cX cB : ClassId) : Nat → State
  | 0 => s.pushCell (zm_out cX s.heap.size 0)
  | i + 1 => ((zm_fill s cX cB i).pushCell (zm_in cB)).setCell s.heap.size (zm_out cX s.heap.size (i + 1))
theorem zm_out_next (cX : ClassId) (h i : Nat) : (zm_out cX h i).setSlot i (.ref (h + 1 + i)) = zm_out cX h (i + 1) := by
  unfold zm_out
  rw [arrV_store]
  congr 1
  funext j
  unfold updV
  by_cases e : j = i
  · subst e
    simp
  · rw [if_neg e]
    show (if j < i then Value.ref (h + 1 + j) else Value.null) = if j < i + 1 then Value.ref (h + 1 + j) else Value.null
    by_cases hj : j < i
    · rw [if_pos hj, if_pos (by omega)]
    · rw [if_neg hj, if_neg (by omega)]
theorem zm_facts (s : State) (cX cB : ClassId) : ∀ i, (zm_fill s cX cB i).heap.size = s.heap.size + 1 + i ∧ (zm_fill s cX cB i).heap[s.heap.size]? = some (zm_out cX s.heap.size i) ∧ (zm_fill s cX cB i).vm = s.vm ∧ (zm_fill s cX cB i).slotsUsed = s.slotsUsed + 4 + i * 20
  | 0 => ⟨by simp [zm_fill], by simp [zm_fill], rfl, by simp [zm_fill, zm_out, arrV_size]⟩
  | i + 1 => by
    obtain ⟨a, b, d, u⟩ := zm_facts s cX cB i
    have hlt : s.heap.size < (zm_fill s cX cB i).heap.size := by omega
    have hb : ((zm_fill s cX cB i).pushCell (zm_in cB)).heap[s.heap.size]? = some (zm_out cX s.heap.size i) := by rw [State.heap_pushCell_of_lt (h := hlt)]; exact b
    refine ⟨?_, State.heap_setCell_self hb, by simp [zm_fill, d], ?_⟩
    · simp [zm_fill, State.setCell, a]; omega
    · simp [zm_fill, u, zm_in, arrV_size]; omega
theorem zm_top (s : State) (f : JFrame) (cX cB : ClassId) : ∀ i, zm_fill (s.setTop f) cX cB i = (zm_fill s cX cB i).setTop f
  | 0 => rfl
  | i + 1 => by simp only [zm_fill, zm_top s f cX cB i, State.heap_setTop, State.pushCell_setTop, State.setCell_setTop]
theorem zm_old (s : State) (cX cB : ClassId) {a : Addr} (ha : a < s.heap.size) : ∀ i, (zm_fill s cX cB i).heap[a]? = s.heap[a]?
  | 0 => State.heap_pushCell_of_lt _ _ ha
  | i + 1 => by
    have f1 := (zm_facts s cX cB i).1
    have hlt : a < (zm_fill s cX cB i).heap.size := Nat.lt_of_lt_of_le ha (by rw [f1]; omega)
    show (((zm_fill s cX cB i).pushCell (zm_in cB)).setCell s.heap.size _).heap[a]? = _
    rw [State.heap_setCell_other (Nat.ne_of_gt ha), State.heap_pushCell_of_lt (h := hlt)]
    exact zm_old s cX cB ha i
theorem zm_row (s : State) (cX cB : ClassId) : ∀ i j, j < i → (zm_fill s cX cB i).heap[s.heap.size + 1 + j]? = some (zm_in cB)
  | 0, _, h => absurd h (Nat.not_lt_zero _)
  | i + 1, j, h => by
    have f1 := (zm_facts s cX cB i).1
    show (((zm_fill s cX cB i).pushCell (zm_in cB)).setCell s.heap.size _).heap[s.heap.size + 1 + j]? = _
    rw [State.heap_setCell_other (show s.heap.size ≠ s.heap.size + 1 + j by omega)]
    rcases Nat.lt_or_ge j i with hj | hj
    · have hlt : s.heap.size + 1 + j < (zm_fill s cX cB i).heap.size := by rw [f1]; omega
      rw [State.heap_pushCell_of_lt (h := hlt)]
      exact zm_row s cX cB i j hj
    · have e : j = i := by omega
      subst e
      rw [← f1]
      exact State.heap_pushCell_size _ _
section
variable {E : CtlPost} {e : Env} {d : Bool} {acts : List Action} {s : State}
theorem zm_newArray {cX comp : ClassId} {k : Class} {ty : FieldType} {len : Nat} {init : Value} (hk : s.vm.classes[cX]? = some k) (hkind : k.kind = .array comp ty)
    (hlimit : ¬ len > e.platform.arrayLengthLimit) (hheap : ¬ len * componentBytes ty > e.platform.maxHeapBytes) (hfit : fits ty init = true) (hdef : init.isDefault = true) {Q : Addr → Pre}
    (h1 : s.heap.size < e.platform.maxCells) (h2 : s.slotsUsed + len ≤ e.platform.maxSlots)
    (hq : Q s.heap.size d acts (s.pushCell (arrV cX len (fun _ => init)))) :
    wp (Jvm.newArray cX len init) Q E e d acts s := by
  have hfits : ∀ i v, (Array.replicate len init)[i]? = some v → s.fitsSlot cX .none i v = true := by
    intro i v hv
    rw [Array.getElem?_replicate] at hv
    split at hv
    · cases hv
      simp [State.fitsSlot, State.slotType?, hk, hkind, hfit]
    · cases hv
  have hda : allocActs (Array.replicate len init) s.heap.size acts = acts := by
    unfold allocActs
    rw [if_pos]
    rw [Array.all_replicate]
    split <;> simp [hdef]
  rw [← arrV_new] at hq
  simp only [Jvm.newArray, Jvm.arrayFits, wp_bind', W.ask, W.ite, hlimit, if_false, wp_pure', W.theClass, hk, hkind, hheap, W.alloc, W.stop, Option.some.injEq, exists_eq_left', Array.size_replicate, hda]
  rw [if_neg (by omega)]
  exact ⟨h1, h2, hfits, hq⟩
theorem zm_make1 {cB cc : ClassId} {kc : Class} (hkc : s.vm.classes[cB]? = some kc) (hkindc : kc.kind = .array cc .int)
    (hl : ¬ 20 > e.platform.arrayLengthLimit) (hh : ¬ 20 * 4 > e.platform.maxHeapBytes) (h1 : s.heap.size < e.platform.maxCells) (h2 : s.slotsUsed + 20 ≤ e.platform.maxSlots)
    {Q : Addr → Pre} (hq : Q s.heap.size d acts (s.pushCell (zm_in cB))) : wp (multianewarray.make cB [nI 20]) Q E e d acts s := by
  have h0 : ¬ nI 20 < 0 := by decide
  have hc : (nI 20).toNatClampNeg = 20 := by decide
  rw [multianewarray.make]
  simp only [wp_bind', W.ite, h0, if_false, wp_pure', W.theClass, hkc, hkindc, Option.some.injEq, exists_eq_left', hc]
  exact zm_newArray hkc hkindc hl hh rfl rfl h1 h2 hq
theorem zm_make2 {cX cB cc : ClassId} {k kc : Class} (hk : s.vm.classes[cX]? = some k) (hkind : k.kind = .array cB (.array .int)) (hkc : s.vm.classes[cB]? = some kc) (hkindc : kc.kind = .array cc .int)
    (hl : ¬ 20 > e.platform.arrayLengthLimit) (hh : ¬ 20 * 4 > e.platform.maxHeapBytes) (hl4 : ¬ 4 > e.platform.arrayLengthLimit) (hh4 : ¬ 4 * 4 > e.platform.maxHeapBytes) (h1 : s.heap.size + 5 ≤ e.platform.maxCells) (h2 : s.slotsUsed + 84 ≤ e.platform.maxSlots)
    {Q : Addr → Pre} (hq : ∀ d' acts', Q s.heap.size d' acts' (zm_fill s cX cB 4)) : wp (multianewarray.make cX [nI 4, nI 20]) Q E e d acts s := by
  have h0 : ¬ nI 4 < 0 := by decide
  have hc : (nI 4).toNatClampNeg = 4 := by decide
  have hfind : ([nI 20].find? (· < 0)) = none := by decide
  rw [multianewarray.make]
  simp only [wp_bind', W.ite, h0, if_false, wp_pure', W.theClass, hk, hkind, Option.some.injEq, exists_eq_left', hc]
  refine zm_newArray hk hkind hl4 hh4 rfl rfl (by omega) (by omega) ?_
  simp only [hfind]
  rw [ite_self, wp_bind', Std.Legacy.Range.forIn_eq_forIn_range']
  have hsz : ([:4] : Std.Legacy.Range).size = 4 := by decide
  rw [hsz]
  show wp (forIn (List.range' 0 4 1) PUnit.unit _) _ E e d acts _
  refine wp_forIn_inv (fun rest s' => ∃ i, i ≤ 4 ∧ rest = List.range' i (4 - i) ∧ s' = zm_fill s cX cB i) _ _ ⟨0, Nat.zero_le _, rfl, rfl⟩ ?_ ?_
  · rintro x rest s' d' acts' Q' ⟨i, hi, hl', rfl⟩ hnext
    have hlt : i < 4 := by
      rcases Nat.lt_or_ge i 4 with h | h
      · exact h
      · rw [show 4 - i = 0 by omega] at hl'
        simp at hl'
    obtain ⟨rfl, hrest⟩ : x = i ∧ rest = List.range' (i + 1) (4 - (i + 1)) := by
      rw [show 4 - i = (4 - (i + 1)) + 1 by omega, List.range'_succ] at hl'
      exact ⟨(List.cons.inj hl').1, (List.cons.inj hl').2⟩
    obtain ⟨f1, f2, f3, f4⟩ := zm_facts s cX cB x
    simp only [wp_bind']
    refine zm_make1 (by rw [f3]; exact hkc) hkindc hl hh (by rw [f1]; omega) (by rw [f4]; omega) ?_
    have hlt0 : s.heap.size < (zm_fill s cX cB x).heap.size := by rw [f1]; omega
    simp only [wp_bind', W.writeLoc, wp_pure']
    refine ⟨zm_out cX s.heap.size x, by rw [State.heap_pushCell_of_lt (h := hlt0)]; exact f2, by simp [zm_out, arrV], by rw [zm_out, arrV_size]; exact hlt, ?_, hnext _ _ _ ⟨x + 1, hlt, hrest, ?_⟩⟩
    · simp [zm_out, arrV, State.fitsSlot, State.slotType?, f3, hk, hkind, fits]
    · rw [f1, zm_out_next]
      rfl
  · rintro s' d' acts' ⟨i, hi, hl', rfl⟩
    have hiN : i = 4 := by
      rcases Nat.lt_or_ge i 4 with h | h
      · rw [show 4 - i = (4 - (i + 1)) + 1 by omega, List.range'_succ] at hl'
        cases hl'
      · omega
    subst hiN
    simp only [wp_pure']
    exact hq _ _
end
section
variable {p : Program} {l : Launch} {e : Env} {R : Room} {s : State} {m : MethodId} {args : Array Value} {below : List Frame} {meth : Method} {c : Code} {T : State} {locs : List Loc} {cells slots : Nat}
theorem zm_stand (X : Stand p l e R s m args below meth c T locs cells slots) (cX cB : ClassId) :
    ∀ i, Stand p l e R s m args below meth c (zm_fill T cX cB i) (locs ++ (List.range i).map fun j => ⟨T.heap.size, j⟩) (cells + 1 + i) (slots + 4 + i * 20)
  | 0 => by
    have h := X.pushed (zm_out cX T.heap.size 0)
    rw [show (zm_out cX T.heap.size 0).slots.size = 4 from arrV_size _ _ _] at h
    simpa [zm_fill] using h
  | i + 1 => by
    have Xi := zm_stand X cX cB i
    obtain ⟨f1, f2, f3, f4⟩ := zm_facts T cX cB i
    have hlt0 : T.heap.size < (zm_fill T cX cB i).heap.size := by rw [f1]; omega
    have hcell : ((zm_fill T cX cB i).pushCell (zm_in cB)).heap[T.heap.size]? = some (zm_out cX T.heap.size i) := by rw [State.heap_pushCell_of_lt (h := hlt0)]; exact f2
    have h := (Xi.pushed (zm_in cB)).stored hcell i (.ref (T.heap.size + 1 + i))
    rw [show (zm_in cB).slots.size = 20 from arrV_size _ _ _, zm_out_next] at h
    have e2 : (locs ++ (List.range (i + 1)).map fun j => (⟨T.heap.size, j⟩ : Loc)) = (locs ++ (List.range i).map fun j => (⟨T.heap.size, j⟩ : Loc)) ++ [⟨T.heap.size, i⟩] := by simp [List.range_succ, List.append_assoc]
    rw [e2, show slots + 4 + (i + 1) * 20 = slots + 4 + i * 20 + 20 by omega]
    exact h
theorem zm_step (X : Stand p l e R s m args below meth c T locs cells slots) (hexec : p.tables.exec = Jvm.exec) {own : String} {index : Nat} (hown : s.vm.findClass own = some m.cls) (hclink : (Cond.classLink own index "[[I").before args s = true)
    (hover : (Cond.arrayOver (.array .int)).before args s = true) (harr : (Cond.arrayClass .int).before args s = true)
    {g : JFrame} (hg : g.method = m) (hdg : decode c.code g.pc = .ok (.multianewarray index 2, 4)) {rest : List Value} (hstack : g.stack = .int (nI 20) :: .int (nI 4) :: rest) (hcells : cells + 5 ≤ R.cells) (hslots : slots + 84 ≤ R.slots) :
    ∃ (vm₁ : Vm) (cX cB : ClassId), s.vm.findClass "[[I" = some cX ∧ s.vm.findClass "[I" = some cB ∧
      Stand p l e R s m args below meth c (zm_fill (T.setVm vm₁) cX cB 4) (locs ++ (List.range 4).map fun j => ⟨T.heap.size, j⟩) (cells + 5) (slots + 84) ∧
      ∀ target, Steps p.tables e below ((zm_fill (T.setVm vm₁) cX cB 4).setTop { g with pc := g.pc + 4, stack := .ref T.heap.size :: rest }) target → Steps p.tables e below (T.setTop g) target := by
  subst hg
  have hpl : e.platform.magicAccessors = ({} : Platform).magicAccessors := by rw [X.admits.platform]
  obtain ⟨cB, cX, kA, hcomp, -, hkA, hkindA, hnameA⟩ := arrayOverA_spec hover
  obtain ⟨cB', kC, cc, hcomp', hkC, hkindC⟩ := Cond.arrayClass_spec harr
  have ecomp : cB' = cB := Option.some.inj (hcomp'.symm.trans hcomp)
  subst ecomp
  obtain ⟨c0, hfc0, hcl⟩ := Cond.classLink_spec hown hclink e.platform hpl
  cases hnameA.symm.trans hfc0
  obtain ⟨hg₁, hwarm₁, hready₁⟩ := State.classEntry (e := e) X.warmed hcl
  generalize T.vm.noted g.method.cls index (.cls cX) = vm₁ at hg₁ hwarm₁ hready₁
  have hal : s.vm.Alike vm₁ := hwarm₁.alike
  obtain ⟨kA₁, hkA₁, heA⟩ := hal.2.2 _ _ hkA
  obtain ⟨kC₁, hkC₁, heC⟩ := hal.2.2 _ _ hkC
  have hkindA₁ : kA₁.kind = .array cB' (.array .int) := by rw [heA]; exact hkindA
  have hkindC₁ : kC₁.kind = .array cc .int := by rw [heC]; exact hkindC
  have X₁ := X.noted hwarm₁
  obtain ⟨hr1, hr2⟩ := X.roomAbove hcells hslots
  refine ⟨vm₁, cX, cB', hnameA, hcomp, zm_stand X₁ cX cB' 4, fun target hrest => ?_⟩
  have hl4 : ¬ 4 > e.platform.arrayLengthLimit := by rw [Launch.admits_arrayLengthLimit X.admits]; omega
  have hh4 : ¬ 4 * 4 > e.platform.maxHeapBytes := by rw [Launch.admits_maxHeapBytes X.admits]; omega
  have hl : ¬ 20 > e.platform.arrayLengthLimit := by rw [Launch.admits_arrayLengthLimit X.admits]; omega
  have hh : ¬ 20 * 4 > e.platform.maxHeapBytes := by rw [Launch.admits_maxHeapBytes X.admits]; omega
  jvm_step X.here [hexec, hdg]
  simp only [multianewarray.sem, wp_bind', W.resolveClassAt_links (State.method?_setTop g X.here.top) hg₁]
  rw [W.popN, if_neg (by decide)]
  refine ⟨g, State.topJava?_setTop' (s := T.setVm vm₁) g X.here.top, [.int (nI 4), .int (nI 20)], rest, rfl, hstack, ?_⟩
  simp only [List.mapM_cons, List.mapM_nil, wp_bind', wp_pure']
  refine zm_make2 hkA₁ hkindA₁ hkC₁ hkindC₁ hl hh hl4 hh4 (by show T.heap.size + 5 ≤ _; omega) (by show T.slotsUsed + 84 ≤ _; omega) (fun d' acts' => ?_)
  have XF := zm_stand X₁ cX cB' 4
  have eS : ((T.setTop g).setVm vm₁).setTop { g with stack := rest } = (T.setVm vm₁).setTop { g with stack := rest } := by
    show ((T.setVm vm₁).setTop g).setTop _ = _
    rw [State.setTop_setTop]
  rw [eS, zm_top]
  simp only [wp_bind', W.mark, W.pushRef, State.topJava?_setTop' _ XF.here.top, Option.some.injEq, exists_eq_left', State.setTop_setTop, State.heap_setTop]
  intro acts
  simp [jvm, XF.here.top]
  exact hrest
end
theorem zm_outG (G : zw_G) (n : Nat) : zm_out (G.2.2.1 3) (G.2.2.2.2 + n) 4 = arrV (G.2.2.1 3) 4 (fun j => va_rf ((if j < 4 then some (n + 2 + j) else none).map (zw_ad G))) := by
  unfold zm_out
  have e : (fun j => if j < 4 then Value.ref (G.2.2.2.2 + n + 1 + j) else Value.null) = (fun j => va_rf ((if j < 4 then some (n + 2 + j) else none).map (zw_ad G))) := by
    funext j
    by_cases hj : j < 4
    · rw [if_pos hj, if_pos hj, show n + 2 + j = (n + 1 + j) + 1 by omega, show G.2.2.2.2 + n + 1 + j = G.2.2.2.2 + (n + 1 + j) by omega]
      rfl
    · rw [if_neg hj, if_neg hj]
      rfl
  rw [e]
theorem zr_multi {G : zw_G} {Y : zw_Y} {R : Room} {E : State → Prop} {Qf : zw_Qt} {κ σ pc : Nat} {ls : List (Option Value)} {st : List Value} {w : zw_W} {idx : Nat} (h1 : Cond.classLink Y.1.cls idx "[[I" ∈ zw_T) (h2 : Cond.arrayOver (.array .int) ∈ zw_T) (h3 : Cond.arrayClass .int ∈ zw_T) (d : decode Y.2.1 pc = .ok (.multianewarray idx 2, 4)) (hR : κ + 5 ≤ R.cells ∧ σ + 84 ≤ R.slots)
    (kk : zw_Z G Y R E Qf (κ + 5) (σ + 84) (pc + 4) ls (.ref (w.length + 1) :: st) (w ++ [.inl (3, 4, .inr (.inr (.inr (.inr (fun j => if j < 4 then some (w.length + 2 + j) else none))))), .inl (0, 20, .inl (fun _ => 0)), .inl (0, 20, .inl (fun _ => 0)), .inl (0, 20, .inl (fun _ => 0)), .inl (0, 20, .inl (fun _ => 0))])) : zw_Z G Y R E Qf κ σ pc ls (.int (nI 20) :: .int (nI 4) :: st) w := by
  intro p e s m args below meth c H locs ls' F N T hT X
  obtain ⟨hx, hb, hml, -, -, -, hown, hts, hK, hbs, -⟩ := id F
  have hz := zw_size hbs N hT X
  obtain ⟨vm₁, cX, cB, n1, n2, X', stp⟩ := zm_step X hx hown (hts _ h1) (hts _ h2) (hts _ h3) (g := F0 m pc ls' _) rfl (by rw [hb]; exact d) (rest := st.map (zw_v G)) rfl hR.1 hR.2
  have eX : cX = G.2.2.1 3 := Option.some.inj (n1.symm.trans (hK.2 3 _ rfl).2)
  have eB : cB = G.2.2.1 0 := Option.some.inj (n2.symm.trans (hK.2 0 _ rfl).2)
  subst eX
  subst eB
  have hh : (T.setVm vm₁).heap = H := hT
  have hsz : (T.setVm vm₁).heap.size = G.2.2.2.2 + w.length := by rw [hh]; exact hz
  obtain ⟨f1, f2, -, -⟩ := zm_facts (T.setVm vm₁) (G.2.2.1 3) (G.2.2.1 0) 4
  have hN : zw_N G Y.2.2.1 (κ + 5) ls (w ++ [.inl (3, 4, .inr (.inr (.inr (.inr (fun j => if j < 4 then some (w.length + 2 + j) else none))))), .inl (0, 20, .inl (fun _ => 0)), .inl (0, 20, .inl (fun _ => 0)), .inl (0, 20, .inl (fun _ => 0)), .inl (0, 20, .inl (fun _ => 0))]) s (zm_fill (T.setVm vm₁) (G.2.2.1 3) (G.2.2.1 0) 4).heap (locs ++ (List.range 4).map fun j => ⟨T.heap.size, j⟩) ls' := by
    refine ⟨?_, ?_, ?_, N.2.2.2⟩
    · rw [List.length_append]
      have := N.1
      simp only [List.length_cons, List.length_nil]
      omega
    · intro k q hq
      obtain ⟨x, hx1, rfl⟩ := zw_get hq
      rw [List.getElem?_append] at hx1
      split at hx1
      · rename_i hk
        refine (N.2.1 k _ (zw_at hx1)).kept ?_
        show (zm_fill _ _ _ 4).heap[G.2.2.2.2 + k]? = H[G.2.2.2.2 + k]?
        rw [zm_old _ _ _ (by rw [hsz]; exact Nat.add_lt_add_left hk _) 4, hh]
      · rename_i hk
        obtain ⟨j, rfl⟩ : ∃ j, k = w.length + j := ⟨k - w.length, by omega⟩
        rw [Nat.add_sub_cancel_left] at hx1
        have row : ∀ j, j < 4 → (zm_fill (T.setVm vm₁) (G.2.2.1 3) (G.2.2.1 0) 4).heap[G.2.2.2.2 + (w.length + (j + 1))]? = some (vp_cell (G.2.2.1 0) (20, .inl (fun _ => 0))) := fun j hj => by
          have := zm_row (T.setVm vm₁) (G.2.2.1 3) (G.2.2.1 0) 4 j hj
          rw [hsz, show G.2.2.2.2 + w.length + 1 + j = G.2.2.2.2 + (w.length + (j + 1)) by omega] at this
          exact this
        match j, hx1 with
        | 0, hx1 =>
          cases hx1
          show (zm_fill (T.setVm vm₁) (G.2.2.1 3) (G.2.2.1 0) 4).heap[G.2.2.2.2 + (w.length + 0)]? = some (arrV (G.2.2.1 3) 4 (fun j => va_rf ((if j < 4 then some (w.length + 2 + j) else none).map (zw_ad G))))
          rw [hsz] at f2
          rw [Nat.add_zero, f2]
          exact congrArg some (zm_outG G w.length)
        | 1, hx1 => cases hx1; exact row 0 (by omega)
        | 2, hx1 => cases hx1; exact row 1 (by omega)
        | 3, hx1 => cases hx1; exact row 2 (by omega)
        | 4, hx1 => cases hx1; exact row 3 (by omega)
        | j + 5, hx1 => simp at hx1
    · have hS := N.2.2.1
      refine ⟨by rw [f1, hsz]; have := hS.1; omega, fun q g1 g2 => ?_, fun q hq => ?_⟩
      · rw [zm_old _ _ _ (by rw [hsz, ← hz]; exact Nat.lt_of_lt_of_le g1 hS.1) 4, hh]
        exact hS.2.1 q g1 g2
      · rcases List.mem_append.mp hq with h | h
        · exact hS.2.2 q h
        · obtain ⟨z, -, hz2⟩ := List.mem_map.mp h
          rw [← hz2]
          show G.2.2.2.2 ≤ T.heap.size
          rw [hT, hz]
          omega
  obtain ⟨t, a1, b1⟩ := kk p e s m args below meth c _ _ ls' F hN (zm_fill (T.setVm vm₁) (G.2.2.1 3) (G.2.2.1 0) 4) rfl X'
  refine ⟨t, stp t ?_, b1⟩
  have e1 : (.ref (w.length + 1) :: st : List Value).map (zw_v G) = .ref T.heap.size :: st.map (zw_v G) := by
    rw [List.map_cons, hT, hz]
    rfl
  rw [e1] at a1
  exact a1
end ZM
end
section
section ZN
variable {G : zw_G} {Y : zw_Y} {R : Room} {E : State → Prop} {Qf : zw_Qt} {κ σ pc : Nat} {ls : List (Option Value)} {st : List Value} {w : zw_W}
theorem zr_iaddN {a b : Nat} (d : decode Y.2.1 pc = .ok (.iadd, 1)) (k : zw_Z G Y R E Qf κ σ (pc + 1) ls (.int (nI (a + b)) :: st) w) : zw_Z G Y R E Qf κ σ pc ls (.int (nI b) :: .int (nI a) :: st) w := zr_iadd d (zr_topI (nI_add a b) k)
theorem zr_isubN {a b : Nat} (h : b ≤ a) (d : decode Y.2.1 pc = .ok (.isub, 1)) (k : zw_Z G Y R E Qf κ σ (pc + 1) ls (.int (nI (a - b)) :: st) w) : zw_Z G Y R E Qf κ σ pc ls (.int (nI b) :: .int (nI a) :: st) w := zr_isub d (zr_topI (pk_sub h) k)
theorem zr_imulN {a b : Nat} (d : decode Y.2.1 pc = .ok (.imul, 1)) (k : zw_Z G Y R E Qf κ σ (pc + 1) ls (.int (nI (a * b)) :: st) w) : zw_Z G Y R E Qf κ σ pc ls (.int (nI b) :: .int (nI a) :: st) w := zr_imul d (zr_topI (pk_mul a b) k)
theorem zr_idivN {a b : Nat} (ha : a < 2 ^ 31) (h0 : 0 < b) (hb : b < 2 ^ 31) (d : decode Y.2.1 pc = .ok (.idiv, 1)) (k : zw_Z G Y R E Qf κ σ (pc + 1) ls (.int (nI (a / b)) :: st) w) : zw_Z G Y R E Qf κ σ pc ls (.int (nI b) :: .int (nI a) :: st) w := zr_idiv d (nI_ne0 h0 hb) (zr_topI (pk_div ha h0 hb) k)
theorem zr_iremN {a b : Nat} (ha : a < 2 ^ 31) (h0 : 0 < b) (hb : b < 2 ^ 31) (d : decode Y.2.1 pc = .ok (.irem, 1)) (k : zw_Z G Y R E Qf κ σ (pc + 1) ls (.int (nI (a % b)) :: st) w) : zw_Z G Y R E Qf κ σ pc ls (.int (nI b) :: .int (nI a) :: st) w := zr_irem d (nI_ne0 h0 hb) (zr_topI (pk_rem ha h0 hb) k)
theorem zr_if_eqN {a : Nat} {off : Int} {tgt : Nat} (ha : a < 2 ^ 31) (d : decode Y.2.1 pc = .ok (.ifCond .eq off, 3)) (ht : (pc : Int) + off = (tgt : Int)) (kt : a = 0 → zw_Z G Y R E Qf κ σ tgt ls st w) (kf : a ≠ 0 → zw_Z G Y R E Qf κ σ (pc + 3) ls st w) : zw_Z G Y R E Qf κ σ pc ls (.int (nI a) :: st) w := zr_if_eq d ht (fun z => kt (Nat.eq_zero_of_not_pos fun u => nI_ne0 u ha z)) (fun z => kf (fun u => z (by rw [u]; rfl)))
theorem zr_if_neN {a : Nat} {off : Int} {tgt : Nat} (ha : a < 2 ^ 31) (d : decode Y.2.1 pc = .ok (.ifCond .ne off, 3)) (ht : (pc : Int) + off = (tgt : Int)) (kt : a ≠ 0 → zw_Z G Y R E Qf κ σ tgt ls st w) (kf : a = 0 → zw_Z G Y R E Qf κ σ (pc + 3) ls st w) : zw_Z G Y R E Qf κ σ pc ls (.int (nI a) :: st) w := zr_if_ne d ht (fun z => kt (fun u => z (by rw [u]; rfl))) (fun z => kf (Nat.eq_zero_of_not_pos fun u => nI_ne0 u ha z))
theorem zr_if_ltN {a : Nat} {off : Int} {tgt : Nat} (ha : a < 2 ^ 31) (d : decode Y.2.1 pc = .ok (.ifCond .lt off, 3)) (ht : (pc : Int) + off = (tgt : Int)) (kt : False → zw_Z G Y R E Qf κ σ tgt ls st w) (kf : True → zw_Z G Y R E Qf κ σ (pc + 3) ls st w) : zw_Z G Y R E Qf κ σ pc ls (.int (nI a) :: st) w := zr_if_lt d ht (fun z => kt (nI_pos ha z)) (fun z => kf trivial)
theorem zr_if_geN {a : Nat} {off : Int} {tgt : Nat} (ha : a < 2 ^ 31) (d : decode Y.2.1 pc = .ok (.ifCond .ge off, 3)) (ht : (pc : Int) + off = (tgt : Int)) (kt : True → zw_Z G Y R E Qf κ σ tgt ls st w) (kf : False → zw_Z G Y R E Qf κ σ (pc + 3) ls st w) : zw_Z G Y R E Qf κ σ pc ls (.int (nI a) :: st) w := zr_if_ge d ht (fun z => kt trivial) (fun z => kf (z (nI_pos' ha)))
theorem zr_if_gtN {a : Nat} {off : Int} {tgt : Nat} (ha : a < 2 ^ 31) (d : decode Y.2.1 pc = .ok (.ifCond .gt off, 3)) (ht : (pc : Int) + off = (tgt : Int)) (kt : 0 < a → zw_Z G Y R E Qf κ σ tgt ls st w) (kf : a = 0 → zw_Z G Y R E Qf κ σ (pc + 3) ls st w) : zw_Z G Y R E Qf κ σ pc ls (.int (nI a) :: st) w := zr_if_gt d ht (fun z => kt (Nat.pos_of_ne_zero fun u => absurd (u ▸ z) (by decide))) (fun z => kf (Nat.eq_zero_of_not_pos fun u => z (Int32.not_le.mp (nI_nle u ha))))
theorem zr_if_leN {a : Nat} {off : Int} {tgt : Nat} (ha : a < 2 ^ 31) (d : decode Y.2.1 pc = .ok (.ifCond .le off, 3)) (ht : (pc : Int) + off = (tgt : Int)) (kt : a = 0 → zw_Z G Y R E Qf κ σ tgt ls st w) (kf : 0 < a → zw_Z G Y R E Qf κ σ (pc + 3) ls st w) : zw_Z G Y R E Qf κ σ pc ls (.int (nI a) :: st) w := zr_if_le d ht (fun z => kt (Nat.eq_zero_of_not_pos fun u => nI_nle u ha z)) (fun z => kf (Nat.pos_of_ne_zero fun u => z (by rw [u]; decide)))
/-- a boolean -/
def zw_b (p : Prop) [Decidable p] : Int32 := if p then 1 else 0
theorem zw_b1 {p : Prop} [Decidable p] (h : p) : zw_b p = 1 := if_pos h
theorem zw_b0 {p : Prop} [Decidable p] (h : ¬ p) : zw_b p = 0 := if_neg h
theorem zw_b_eq {p : Prop} [Decidable p] : zw_b p = 0 ↔ ¬ p := by
  unfold zw_b
  by_cases h : p <;> simp [h]
theorem zw_b_nar {p : Prop} [Decidable p] : narrow .boolean (.int (zw_b p)) = .int (zw_b p) := by
  unfold zw_b
  by_cases h : p
  · rw [if_pos h]; rfl
  · rw [if_neg h]; rfl
theorem zr_if_eqB {p : Prop} [Decidable p] {off : Int} {tgt : Nat} (d : decode Y.2.1 pc = .ok (.ifCond .eq off, 3)) (ht : (pc : Int) + off = (tgt : Int)) (kt : ¬ p → zw_Z G Y R E Qf κ σ tgt ls st w) (kf : p → zw_Z G Y R E Qf κ σ (pc + 3) ls st w) : zw_Z G Y R E Qf κ σ pc ls (.int (zw_b p) :: st) w := zr_if_eq d ht (fun z => kt (zw_b_eq.mp z)) (fun z => kf (Decidable.byContradiction fun u => z (zw_b_eq.mpr u)))
theorem zr_if_neB {p : Prop} [Decidable p] {off : Int} {tgt : Nat} (d : decode Y.2.1 pc = .ok (.ifCond .ne off, 3)) (ht : (pc : Int) + off = (tgt : Int)) (kt : p → zw_Z G Y R E Qf κ σ tgt ls st w) (kf : ¬ p → zw_Z G Y R E Qf κ σ (pc + 3) ls st w) : zw_Z G Y R E Qf κ σ pc ls (.int (zw_b p) :: st) w := zr_if_ne d ht (fun z => kt (Decidable.byContradiction fun u => z (zw_b_eq.mpr u))) (fun z => kf (zw_b_eq.mp z))
theorem zw_cmp0 {x y : Int64} : lg_cmp x y = 0 ↔ x = y := by
  unfold lg_cmp
  by_cases h1 : x > y
  · rw [if_pos h1]
    exact ⟨fun h => absurd h (by decide), fun h => absurd h1 (by rw [h]; exact Int64.lt_irrefl)⟩
  · rw [if_neg h1]
    by_cases h2 : x = y
    · simp [h2]
    · simp [h2]
theorem zw_cmpLe {x y : Int64} : lg_cmp x y ≤ 0 ↔ ¬ y < x := by
  unfold lg_cmp
  by_cases h1 : x > y
  · rw [if_pos h1]
    exact ⟨fun h => absurd h (by decide), fun h => absurd h1 h⟩
  · rw [if_neg h1]
    by_cases h2 : x = y
    · simp [h2, Int64.lt_irrefl]
    · rw [if_neg h2]
      exact ⟨fun _ => h1, fun _ => by decide⟩
theorem zr_lcmp_ne {x y : Int64} {off : Int} {tgt : Nat} (d : decode Y.2.1 pc = .ok (.lcmp, 1)) (d2 : decode Y.2.1 (pc + 1) = .ok (.ifCond .ne off, 3)) (ht : ((pc + 1 : Nat) : Int) + off = (tgt : Int)) (kt : x ≠ y → zw_Z G Y R E Qf κ σ tgt ls st w) (kf : x = y → zw_Z G Y R E Qf κ σ (pc + 1 + 3) ls st w) : zw_Z G Y R E Qf κ σ pc ls (.long y :: .long x :: st) w := zr_lcmp d (zr_if_ne d2 ht (fun z => kt (fun u => z (zw_cmp0.mpr u))) (fun z => kf (zw_cmp0.mp z)))
theorem zr_lcmp_eq {x y : Int64} {off : Int} {tgt : Nat} (d : decode Y.2.1 pc = .ok (.lcmp, 1)) (d2 : decode Y.2.1 (pc + 1) = .ok (.ifCond .eq off, 3)) (ht : ((pc + 1 : Nat) : Int) + off = (tgt : Int)) (kt : x = y → zw_Z G Y R E Qf κ σ tgt ls st w) (kf : x ≠ y → zw_Z G Y R E Qf κ σ (pc + 1 + 3) ls st w) : zw_Z G Y R E Qf κ σ pc ls (.long y :: .long x :: st) w := zr_lcmp d (zr_if_eq d2 ht (fun z => kt (zw_cmp0.mp z)) (fun z => kf (fun u => z (zw_cmp0.mpr u))))
theorem zr_lcmp_le {x y : Int64} {off : Int} {tgt : Nat} (d : decode Y.2.1 pc = .ok (.lcmp, 1)) (d2 : decode Y.2.1 (pc + 1) = .ok (.ifCond .le off, 3)) (ht : ((pc + 1 : Nat) : Int) + off = (tgt : Int)) (kt : ¬ y < x → zw_Z G Y R E Qf κ σ tgt ls st w) (kf : y < x → zw_Z G Y R E Qf κ σ (pc + 1 + 3) ls st w) : zw_Z G Y R E Qf κ σ pc ls (.long y :: .long x :: st) w := zr_lcmp d (zr_if_le d2 ht (fun z => kt (zw_cmpLe.mp z)) (fun z => kf (Decidable.byContradiction fun u => z (zw_cmpLe.mpr u))))
end ZN
end
section
/-! PURE ROWS: sums, digits, words. -/
theorem wz_up {P : Nat → Prop} (n : Nat) (hs : ∀ i, i < n → P (i + 1) → P i) (hn : P n) : ∀ i, i ≤ n → P i := by
  intro i hi
  obtain ⟨k, hk⟩ : ∃ k, k = n - i := ⟨_, rfl⟩
  induction k generalizing i with
  | zero =>
    have : i = n := by omega
    rw [this]
    exact hn
  | succ k ih => exact hs i (by omega) (ih (i + 1) (by omega) (by omega))
def wn_sum (h : Nat → Nat) : Nat → Nat
  | 0 => 0
  | i + 1 => wn_sum h i + h i
theorem wn_sum_congr {h g : Nat → Nat} {n : Nat} (e : ∀ i, i < n → h i = g i) : wn_sum h n = wn_sum g n := by
  induction n with
  | zero => rfl
  | succ n ih => rw [wn_sum, wn_sum, ih (fun i hi => e i (by omega)), e n (by omega)]
theorem wn_sum_le {h : Nat → Nat} {b n : Nat} (e : ∀ i, i < n → h i ≤ b) : wn_sum h n ≤ b * n := by
  induction n with
  | zero => exact Nat.zero_le _
  | succ n ih =>
    have h1 := ih (fun i hi => e i (by omega))
    have h2 := e n (by omega)
    rw [wn_sum, Nat.mul_succ]
    omega
theorem wn_sum_mono {h : Nat → Nat} {i n : Nat} (e : i ≤ n) : wn_sum h i ≤ wn_sum h n := by
  induction n with
  | zero =>
    have : i = 0 := by omega
    rw [this]
    exact Nat.le_refl _
  | succ n ih =>
    by_cases hi : i = n + 1
    · rw [hi]; exact Nat.le_refl _
    · have := ih (by omega)
      rw [wn_sum]
      omega
theorem wn_sum_leS {h g : Nat → Nat} {n : Nat} (e : ∀ i, i < n → h i ≤ g i) : wn_sum h n ≤ wn_sum g n := by
  induction n with
  | zero => exact Nat.le_refl _
  | succ n ih =>
    have h1 := ih (fun i hi => e i (by omega))
    have h2 := e n (by omega)
    rw [wn_sum, wn_sum]
    omega
/-- digits -/
def wv (B : Nat) (f : Nat → Nat) : Nat → Nat
  | 0 => 0
  | i + 1 => wv B f i + f i * B ^ i
theorem wv_congr {B : Nat} {f g : Nat → Nat} {n : Nat} (e : ∀ i, i < n → f i = g i) : wv B f n = wv B g n := by
  induction n with
  | zero => rfl
  | succ n ih => rw [wv, wv, ih (fun i hi => e i (by omega)), e n (by omega)]
theorem wv_lt {B : Nat} {f : Nat → Nat} {n : Nat} (hf : ∀ i, i < n → f i < B) : wv B f n < B ^ n := by
  induction n with
  | zero => exact Nat.one_pos
  | succ n ih =>
    have h1 := ih (fun i hi => hf i (by omega))
    have h2 := hf n (by omega)
    have h3 : (f n + 1) * B ^ n ≤ B * B ^ n := Nat.mul_le_mul_right _ h2
    rw [Nat.add_mul, Nat.one_mul] at h3
    rw [wv, Nat.pow_succ, Nat.mul_comm (B ^ n) B]
    omega
theorem wv_cmp {B : Nat} {f g : Nat → Nat} {n k : Nat} (hf : ∀ i, i < n → f i < B) (hk : k < n) (hs : ∀ j, k < j → j < n → f j = g j) (hlt : f k < g k) : wv B f n < wv B g n := by
  induction n with
  | zero => omega
  | succ n ih =>
    rw [wv, wv]
    by_cases hkn : k = n
    · subst hkn
      have h1 := wv_lt (fun i hi => hf i (by omega)) (n := k)
      have h2 : (f k + 1) * B ^ k ≤ g k * B ^ k := Nat.mul_le_mul_right _ hlt
      rw [Nat.add_mul, Nat.one_mul] at h2
      omega
    · have h1 := ih (fun i hi => hf i (by omega)) (by omega) (fun j h1 h2 => hs j h1 (by omega))
      rw [hs n (by omega) (by omega)]
      omega
/-- times a number, digit by digit: the carry ahead of a digit -/
def wv_c (B q : Nat) (f : Nat → Nat) : Nat → Nat
  | 0 => 0
  | i + 1 => (f i * q + wv_c B q f i) / B
theorem wv_c_le {B q : Nat} {f : Nat → Nat} {n : Nat} (hB : 0 < B) (hf : ∀ i, i < n → f i < B) : ∀ i, i ≤ n → wv_c B q f i ≤ q := by
  intro i
  induction i with
  | zero => intro _; exact Nat.zero_le _
  | succ i ih =>
    intro hi
    have h1 := ih (by omega)
    have h2 := hf i (by omega)
    have h3 : (f i + 1) * q ≤ B * q := Nat.mul_le_mul_right _ h2
    rw [Nat.add_mul, Nat.one_mul] at h3
    rw [wv_c]
    apply Nat.div_le_of_le_mul
    omega
theorem wv_times {B q : Nat} {f : Nat → Nat} (n : Nat) : wv B (fun i => (f i * q + wv_c B q f i) % B) n + wv_c B q f n * B ^ n = wv B f n * q := by
  induction n with
  | zero => rw [wv, wv, wv_c, Nat.zero_mul, Nat.zero_mul]
  | succ n ih =>
    have h1 := Nat.div_add_mod (f n * q + wv_c B q f n) B
    have h2 : wv_c B q f (n + 1) = (f n * q + wv_c B q f n) / B := rfl
    rw [wv, wv, h2, Nat.pow_succ, Nat.add_mul, ← ih]
    have h3 : ((f n * q + wv_c B q f n) % B) * B ^ n + (f n * q + wv_c B q f n) / B * (B ^ n * B) = (f n * q + wv_c B q f n) * B ^ n := by
      rw [Nat.mul_comm (B ^ n) B, ← Nat.mul_assoc, ← Nat.add_mul]
      congr 1
      rw [Nat.mul_comm _ B]
      omega
    have h4 : (f n * q + wv_c B q f n) * B ^ n = f n * B ^ n * q + wv_c B q f n * B ^ n := by
      rw [Nat.add_mul, Nat.mul_right_comm]
    omega
/-- where the product fits, no carry is left -/
theorem wv_prod {B q n : Nat} {f : Nat → Nat} (hB : 0 < B) (h : wv B f n * q < B ^ n) : wv B (fun i => (f i * q + wv_c B q f i) % B) n = wv B f n * q := by
  have h1 := wv_times (B := B) (q := q) (f := f) n
  have h2 : wv_c B q f n = 0 := by
    rcases Nat.eq_zero_or_pos (wv_c B q f n) with h3 | h3
    · exact h3
    · have h4 : 1 * B ^ n ≤ wv_c B q f n * B ^ n := Nat.mul_le_mul_right _ h3
      omega
  rw [h2, Nat.zero_mul, Nat.add_zero] at h1
  exact h1
/-- a character in a word: its code, 0 where it parts words -/
def wf_fold (c : Nat) : Nat := if 65 ≤ c ∧ c ≤ 90 then c + 32 else if (97 ≤ c ∧ c ≤ 122) ∨ (48 ≤ c ∧ c ≤ 57) then c else 0
theorem wf_fold_lt (c : Nat) : wf_fold c < 128 := by
  unfold wf_fold
  split
  · omega
  · split <;> omega
/-- the words of a text: how many, each as its codes, and how long the last run is -/
abbrev wt_S : Type := Nat × (Nat → List Nat) × Nat
def wt_step (s : wt_S) (k : Nat) : wt_S :=
  if k = 0 then (s.1, s.2.1, 0)
  else if s.2.2 = 0 then (s.1 + 1, va_up s.2.1 s.1 [k], 1)
  else if s.2.2 < 8 then (s.1, va_up s.2.1 (s.1 - 1) (s.2.1 (s.1 - 1) ++ [k]), s.2.2 + 1)
  else (s.1, s.2.1, s.2.2 + 1)
def wt_of (x : Nat → Nat) : Nat → wt_S
  | 0 => (0, fun _ => [], 0)
  | n + 1 => wt_step (wt_of x n) (wf_fold (x n))
/-- a word: one to eight codes -/
def wd_ok (l : List Nat) : Prop := 0 < l.length ∧ l.length ≤ 8 ∧ ∀ k ∈ l, 0 < k ∧ k < 128
def wt_ok (n : Nat) (s : wt_S) : Prop := (2 * s.1 ≤ n + (if s.2.2 = 0 then 0 else 1)) ∧ (∀ i, i < s.1 → wd_ok (s.2.1 i)) ∧ (0 < s.2.2 → 0 < s.1 ∧ (s.2.1 (s.1 - 1)).length = if s.2.2 < 8 then s.2.2 else 8)
theorem wt_ok_step {n k : Nat} {s : wt_S} (h : wt_ok n s) (hk : k < 128) : wt_ok (n + 1) (wt_step s k) := by
  obtain ⟨m, W, r⟩ := s
  obtain ⟨h1, h2, h3⟩ := h
  simp only at h1 h2 h3
  unfold wt_step
  simp only
  split
  · refine ⟨?_, h2, fun h => absurd h (by simp)⟩
    simp only
    split at h1 <;> simp <;> omega
  · rename_i hk0
    split
    · rename_i hr
      refine ⟨?_, ?_, ?_⟩
      · simp only
        rw [if_pos hr] at h1
        simp
        omega
      · intro i hi
        simp only at hi ⊢
        unfold va_up
        split
        · exact ⟨by simp, by simp, fun q hq => by
            rw [List.mem_singleton] at hq
            omega⟩
        · exact h2 i (by omega)
      · intro _
        simp [va_up]
    · rename_i hr
      have h4 := h3 (by omega)
      rw [if_neg hr] at h1
      split
      · rename_i h8
        rw [if_pos h8] at h4
        refine ⟨?_, ?_, ?_⟩
        · simp
          omega
        · intro i hi
          simp only at hi ⊢
          unfold va_up
          split
          · rename_i hi2
            have h5 := h2 (m - 1) (by omega)
            refine ⟨by simp, by simp; omega, fun q hq => ?_⟩
            rcases List.mem_append.mp hq with h6 | h6
            · exact h5.2.2 q h6
            · rw [List.mem_singleton] at h6
              omega
          · exact h2 i hi
        · intro _
          refine ⟨h4.1, ?_⟩
          simp only [va_up, if_true, List.length_append, List.length_cons, List.length_nil]
          split <;> omega
      · rename_i h8
        rw [if_neg h8] at h4
        refine ⟨?_, h2, fun _ => ⟨h4.1, ?_⟩⟩
        · simp
          omega
        · simp only
          rw [if_neg (by omega)]
          exact h4.2
theorem wt_of_ok (x : Nat → Nat) (n : Nat) : wt_ok n (wt_of x n) := by
  induction n with
  | zero => exact ⟨by simp [wt_of], fun i hi => by simp [wt_of] at hi, fun h => by simp [wt_of] at h⟩
  | succ n ih => exact wt_ok_step ih (wf_fold_lt _)
theorem wt_of_le (x : Nat → Nat) {n : Nat} (h : n ≤ 40) : (wt_of x n).1 ≤ 20 := by
  have h1 := (wt_of_ok x n).1
  split at h1 <;> omega
theorem wt_of_congr {x y : Nat → Nat} {n : Nat} (h : ∀ i, i < n → x i = y i) : wt_of x n = wt_of y n := by
  induction n with
  | zero => rfl
  | succ n ih => rw [wt_of, wt_of, ih (fun i hi => h i (by omega)), h n (by omega)]
/-- the class's number of a word: the first code lowest, eight bits each -/
def we_a : List Nat → Nat
  | [] => 0
  | k :: l => k + 256 * we_a l
/-- the reference's: the first code highest, base 128 -/
def we_b (l : List Nat) : Nat := l.foldl (fun a k => 128 * a + k) 0
theorem we_a_snoc (l : List Nat) (k : Nat) : we_a (l ++ [k]) = we_a l + k * 256 ^ l.length := by
  induction l with
  | nil => simp [we_a]
  | cons u l ih =>
    rw [List.cons_append, we_a, we_a, ih, List.length_cons, Nat.pow_succ, Nat.mul_add, Nat.mul_comm (256 ^ l.length) 256, Nat.mul_left_comm k 256]
    omega
theorem we_b_snoc (l : List Nat) (k : Nat) : we_b (l ++ [k]) = 128 * we_b l + k := by
  simp [we_b]
theorem we_a_lt (l : List Nat) (h : ∀ k ∈ l, k < 128) : we_a l < 256 ^ l.length := by
  induction l with
  | nil => exact Nat.one_pos
  | cons u l ih =>
    have h1 := ih (fun k hk => h k (List.mem_cons_of_mem _ hk))
    have h2 := h u List.mem_cons_self
    rw [we_a, List.length_cons, Nat.pow_succ]
    omega
theorem we_a_lt2 (l : List Nat) (h : ∀ k ∈ l, k < 128) (h8 : l.length ≤ 8) : we_a l < 2 ^ 63 := by
  match l, h, h8 with
  | [], _, _ => exact Nat.two_pow_pos 63
  | [a], h, _ => have := h a (by simp); simp [we_a]; omega
  | [a, b], h, _ => have := h a (by simp); have := h b (by simp); simp [we_a]; omega
  | [a, b, c], h, _ => have := h a (by simp); have := h b (by simp); have := h c (by simp); simp [we_a]; omega
  | [a, b, c, d], h, _ => have := h a (by simp); have := h b (by simp); have := h c (by simp); have := h d (by simp); simp [we_a]; omega
  | [a, b, c, d, e], h, _ => have := h a (by simp); have := h b (by simp); have := h c (by simp); have := h d (by simp); have := h e (by simp); simp [we_a]; omega
  | [a, b, c, d, e, f], h, _ => have := h a (by simp); have := h b (by simp); have := h c (by simp); have := h d (by simp); have := h e (by simp); have := h f (by simp); simp [we_a]; omega
  | [a, b, c, d, e, f, g], h, _ => have := h a (by simp); have := h b (by simp); have := h c (by simp); have := h d (by simp); have := h e (by simp); have := h f (by simp); have := h g (by simp); simp [we_a]; omega
  | [a, b, c, d, e, f, g, i], h, _ => have := h a (by simp); have := h b (by simp); have := h c (by simp); have := h d (by simp); have := h e (by simp); have := h f (by simp); have := h g (by simp); have := h i (by simp); simp [we_a]; omega
  | a :: b :: c :: d :: e :: f :: g :: i :: j :: l, _, h8 => simp at h8
theorem we_b_acc (l : List Nat) : ∀ a : Nat, l.foldl (fun a k => 128 * a + k) a = a * 128 ^ l.length + we_b l := by
  unfold we_b
  induction l with
  | nil => intro a; simp
  | cons k l ih =>
    intro a
    rw [List.foldl_cons, List.foldl_cons, ih, ih (128 * 0 + k), List.length_cons, Nat.pow_succ, Nat.add_mul, Nat.mul_zero, Nat.zero_add, Nat.mul_comm (128 ^ l.length) 128, ← Nat.mul_assoc, Nat.mul_comm a 128]
    omega
theorem we_b_cons (k : Nat) (l : List Nat) : we_b (k :: l) = k * 128 ^ l.length + we_b l := by
  have h := we_b_acc l k
  unfold we_b at h ⊢
  rw [List.foldl_cons, Nat.mul_zero, Nat.zero_add]
  exact h
theorem we_b_lt (l : List Nat) (h : ∀ k ∈ l, k < 128) : we_b l < 128 ^ l.length := by
  induction l with
  | nil => exact Nat.one_pos
  | cons u l ih =>
    have h1 := ih (fun k hk => h k (List.mem_cons_of_mem _ hk))
    have h2 : (u + 1) * 128 ^ l.length ≤ 128 * 128 ^ l.length := Nat.mul_le_mul_right _ (h u List.mem_cons_self)
    rw [Nat.add_mul, Nat.one_mul] at h2
    rw [we_b_cons, List.length_cons, Nat.pow_succ, Nat.mul_comm (128 ^ l.length) 128]
    omega
theorem we_b_lt2 (l : List Nat) (h : ∀ k ∈ l, k < 128) (h8 : l.length ≤ 8) : we_b l < 2 ^ 56 := by
  have h1 := we_b_lt l h
  have h2 : 128 ^ l.length ≤ 128 ^ 8 := Nat.pow_le_pow_right (by omega) h8
  have h3 : (128 : Nat) ^ 8 = 2 ^ 56 := by decide
  omega
theorem we_a_inj : ∀ (l m : List Nat), (∀ k ∈ l, 0 < k ∧ k < 128) → (∀ k ∈ m, 0 < k ∧ k < 128) → we_a l = we_a m → l = m
  | [], [], _, _, _ => rfl
  | [], b :: m, _, hm, e => by
    have := hm b List.mem_cons_self
    rw [we_a, we_a] at e
    omega
  | a :: l, [], hl, _, e => by
    have := hl a List.mem_cons_self
    rw [we_a, we_a] at e
    omega
  | a :: l, b :: m, hl, hm, e => by
    have h1 := hl a List.mem_cons_self
    have h2 := hm b List.mem_cons_self
    rw [we_a, we_a] at e
    have h3 : a = b := by omega
    have h4 : we_a l = we_a m := by omega
    rw [h3, we_a_inj l m (fun k hk => hl k (List.mem_cons_of_mem _ hk)) (fun k hk => hm k (List.mem_cons_of_mem _ hk)) h4]
theorem we_b_injL : ∀ (l m : List Nat), l.length = m.length → (∀ k ∈ l, k < 128) → (∀ k ∈ m, k < 128) → we_b l = we_b m → l = m
  | [], [], _, _, _, _ => rfl
  | [], b :: m, h, _, _, _ => by simp at h
  | a :: l, [], h, _, _, _ => by simp at h
  | a :: l, b :: m, h, hl, hm, e => by
    have hlen : l.length = m.length := by simpa using h
    have g1 := we_b_lt l (fun k hk => hl k (List.mem_cons_of_mem _ hk))
    have g2 := we_b_lt m (fun k hk => hm k (List.mem_cons_of_mem _ hk))
    rw [we_b_cons, we_b_cons, hlen] at e
    rw [hlen] at g1
    have h3 : a = b := by
      rcases Nat.lt_trichotomy a b with q | q | q
      · have : (a + 1) * 128 ^ m.length ≤ b * 128 ^ m.length := Nat.mul_le_mul_right _ q
        rw [Nat.add_mul, Nat.one_mul] at this
        omega
      · exact q
      · have : (b + 1) * 128 ^ m.length ≤ a * 128 ^ m.length := Nat.mul_le_mul_right _ q
        rw [Nat.add_mul, Nat.one_mul] at this
        omega
    subst h3
    rw [we_b_injL l m hlen (fun k hk => hl k (List.mem_cons_of_mem _ hk)) (fun k hk => hm k (List.mem_cons_of_mem _ hk)) (by omega)]
theorem we_b_ge {a : Nat} {l : List Nat} (h : 0 < a) : 128 ^ l.length ≤ we_b (a :: l) := by
  rw [we_b_cons]
  have : 1 * 128 ^ l.length ≤ a * 128 ^ l.length := Nat.mul_le_mul_right _ h
  omega
theorem we_b_inj {l m : List Nat} (hl : wd_ok l) (hm : wd_ok m) (e : we_b l = we_b m) : l = m := by
  refine we_b_injL l m ?_ (fun k hk => (hl.2.2 k hk).2) (fun k hk => (hm.2.2 k hk).2) e
  have key : ∀ (x y : List Nat), wd_ok x → wd_ok y → we_b x = we_b y → x.length ≤ y.length := by
    intro x y hx hy he
    match x, hx with
    | [], hx => exact Nat.zero_le _
    | a :: x, hx =>
      have h1 := we_b_ge (l := x) (hx.2.2 a List.mem_cons_self).1
      have h2 := we_b_lt y (fun k hk => (hy.2.2 k hk).2)
      have h3 : 128 ^ x.length < 128 ^ y.length := by omega
      have h4 : x.length < y.length := (Nat.pow_lt_pow_iff_right (by omega)).mp h3
      rw [List.length_cons]
      omega
  exact Nat.le_antisymm (key l m hl hm e) (key m l hm hl e.symm)
theorem we_ab {l m : List Nat} (hl : wd_ok l) (hm : wd_ok m) : (we_a l = we_a m ↔ l = m) ∧ (we_b l = we_b m ↔ l = m) :=
  ⟨⟨fun h => we_a_inj l m hl.2.2 hm.2.2 h, fun h => by rw [h]⟩, ⟨fun h => we_b_inj hl hm h, fun h => by rw [h]⟩⟩
end
section
/-! ===== lN n to 2^64: shifts, and, or, masks, one bit ===== -/
theorem wb_tb (n : Nat) : (lN n).toBitVec = BitVec.ofNat 64 n := rfl
theorem wb_inj {a b : Int64} (h : a.toBitVec = b.toBitVec) : a = b := Int64.toBitVec_inj.mp h
theorem wb_tn {n : Nat} (h : n < 2 ^ 64) : (lN n).toBitVec.toNat = n := by rw [wb_tb, BitVec.toNat_ofNat, Nat.mod_eq_of_lt h]
theorem wb_of (x : Int64) : ∃ n, n < 2 ^ 64 ∧ x = lN n := ⟨x.toBitVec.toNat, x.toBitVec.isLt, wb_inj (by rw [wb_tb]; simp)⟩
theorem wb_of32 (x : Int32) : ∃ n, n < 2 ^ 32 ∧ x = nI n := ⟨x.toBitVec.toNat, x.toBitVec.isLt, Int32.toBitVec_inj.mp (by show _ = BitVec.ofNat 32 _; simp)⟩
theorem wb_c : ∀ k, k < 64 → ((nI k).toInt64 &&& 63) = lN k := by decide +kernel
theorem wb_cu : ∀ k, k < 64 → ((nI k).toInt64.toUInt64 &&& Int64.toUInt64 63) = UInt64.ofNat k := by decide +kernel
theorem wb_sm : ∀ k, k < 64 → (BitVec.ofNat 64 k).smod 64 = BitVec.ofNat 64 k := by decide +kernel
theorem wb_pw {a b : Nat} (h : a ≤ b) : 2 ^ b = 2 ^ a * 2 ^ (b - a) := by rw [← Nat.pow_add]; congr 1; omega
theorem wb_lt2 {a b : Nat} (h : a < b) : 2 ^ a < 2 ^ b := Nat.pow_lt_pow_right (by decide) h
theorem wb_mod (n : Nat) : lN n = lN (n % 2 ^ 64) := wb_inj (by rw [wb_tb, wb_tb]; apply BitVec.eq_of_toNat_eq; rw [BitVec.toNat_ofNat, BitVec.toNat_ofNat, Nat.mod_mod])
theorem wb_shr {n k : Nat} (hn : n < 2 ^ 64) (hk : k < 64) : ((lN n).toUInt64 >>> ((nI k).toInt64.toUInt64 &&& Int64.toUInt64 63)).toInt64 = lN (n / 2 ^ k) := by
  rw [wb_cu k hk]
  apply wb_inj
  apply BitVec.eq_of_toNat_eq
  show ((lN n).toUInt64 >>> UInt64.ofNat k).toNat = (BitVec.ofNat 64 _).toNat
  have h1 : (UInt64.ofNat k).toNat = k := by
    show (BitVec.ofNat 64 k).toNat = k
    rw [BitVec.toNat_ofNat, Nat.mod_eq_of_lt (by omega)]
  have h2 : (lN n).toUInt64.toNat = n := wb_tn hn
  rw [UInt64.toNat_shiftRight, h1, h2, Nat.mod_eq_of_lt hk, Nat.shiftRight_eq_div_pow, BitVec.toNat_ofNat, Nat.mod_eq_of_lt (Nat.lt_of_le_of_lt (Nat.div_le_self _ _) hn)]
theorem wb_shl (n : Nat) {k : Nat} (hk : k < 64) : lN n <<< ((nI k).toInt64 &&& 63) = lN (n * 2 ^ k) := by
  rw [wb_c k hk]
  apply wb_inj
  rw [Int64.toBitVec_shiftLeft, wb_tb, wb_tb, wb_tb, wb_sm k hk]
  apply BitVec.eq_of_toNat_eq
  rw [BitVec.shiftLeft_eq', BitVec.toNat_shiftLeft, BitVec.toNat_ofNat, BitVec.toNat_ofNat, BitVec.toNat_ofNat, Nat.mod_eq_of_lt (show k < 2 ^ 64 by omega), Nat.shiftLeft_eq, Nat.mul_mod, Nat.mod_mod, ← Nat.mul_mod]
theorem wb_and {a b : Nat} (ha : a < 2 ^ 64) (hb : b < 2 ^ 64) : lN a &&& lN b = lN (a &&& b) := by
  apply wb_inj
  rw [Int64.toBitVec_and, wb_tb, wb_tb, wb_tb]
  apply BitVec.eq_of_toNat_eq
  rw [BitVec.toNat_and, BitVec.toNat_ofNat, BitVec.toNat_ofNat, BitVec.toNat_ofNat, Nat.mod_eq_of_lt ha, Nat.mod_eq_of_lt hb, Nat.mod_eq_of_lt (Nat.and_lt_two_pow _ hb)]
theorem wb_or {a b : Nat} (ha : a < 2 ^ 64) (hb : b < 2 ^ 64) : lN a ||| lN b = lN (a ||| b) := by
  apply wb_inj
  rw [Int64.toBitVec_or, wb_tb, wb_tb, wb_tb]
  apply BitVec.eq_of_toNat_eq
  rw [BitVec.toNat_or, BitVec.toNat_ofNat, BitVec.toNat_ofNat, BitVec.toNat_ofNat, Nat.mod_eq_of_lt ha, Nat.mod_eq_of_lt hb, Nat.mod_eq_of_lt (Nat.or_lt_two_pow ha hb)]
theorem wb_mask {n k : Nat} (hn : n < 2 ^ 64) (hk : k < 64) : lN n &&& lN (2 ^ k - 1) = lN (n % 2 ^ k) := by
  rw [wb_and hn (by have := wb_lt2 hk; omega), Nat.and_two_pow_sub_one_eq_mod]
theorem wb_a1 {n : Nat} (hn : n < 2 ^ 64) : lN n &&& 1 = lN (n % 2) := wb_mask (k := 1) hn (by decide)
theorem wb_bit {n k : Nat} (hn : n < 2 ^ 64) (hk : k < 64) : ((lN n).toUInt64 >>> ((nI k).toInt64.toUInt64 &&& Int64.toUInt64 63)).toInt64 &&& 1 = lN (n / 2 ^ k % 2) := by
  rw [wb_shr hn hk, wb_a1 (Nat.lt_of_le_of_lt (Nat.div_le_self _ _) hn)]
theorem wb_xor {q k : Nat} (hk : k < 63) (h : 2 ^ k ≤ q) (h2 : q < 2 ^ (k + 1)) : lN q ^^^ lN (2 ^ k) = lN (q - 2 ^ k) := by
  obtain ⟨r, rfl⟩ : ∃ r, q = 2 ^ k + r := ⟨q - 2 ^ k, by omega⟩
  have hr : r < 2 ^ k := by rw [Nat.pow_succ] at h2; omega
  have hx : (2 ^ k + r) ^^^ 2 ^ k = r := by
    apply Nat.eq_of_testBit_eq
    intro i
    rw [Nat.testBit_xor, Nat.testBit_two_pow]
    rcases Nat.lt_trichotomy i k with h | h | h
    · rw [Nat.testBit_two_pow_add_gt h]
      simp [show ¬ k = i by omega]
    · subst h
      rw [Nat.testBit_two_pow_add_eq]
      simp
    · have a1 : 2 ^ (k + 1) ≤ 2 ^ i := Nat.pow_le_pow_right (by decide) h
      rw [Nat.testBit_lt_two_pow (show 2 ^ k + r < 2 ^ i by omega), Nat.testBit_lt_two_pow (show r < 2 ^ i by omega)]
      simp [show ¬ k = i by omega]
  have b1 := wb_lt2 (show k + 1 < 64 by omega)
  have b2 := wb_lt2 (show k < 64 by omega)
  apply wb_inj
  rw [Int64.toBitVec_xor, wb_tb, wb_tb, wb_tb]
  apply BitVec.eq_of_toNat_eq
  rw [BitVec.toNat_xor, BitVec.toNat_ofNat, BitVec.toNat_ofNat, BitVec.toNat_ofNat, Nat.mod_eq_of_lt (by omega : 2 ^ k + r < 2 ^ 64), Nat.mod_eq_of_lt b2, hx, Nat.add_sub_cancel_left, Nat.mod_eq_of_lt (by omega)]
/-! ===== lN: masks, 'or' of parts that don't overlap is a sum ===== -/
theorem u_tn {n : Nat} (h : n < 2 ^ 64) : (UInt64.ofNat n).toNat = n := Nat.mod_eq_of_lt h
theorem g_and {a b c : Nat} (ha : a < 2 ^ 64) (hb : b < 2 ^ 64) (hc : a &&& b = c) : lN a &&& lN b = lN c := by
  subst hc
  have h : UInt64.ofNat a &&& UInt64.ofNat b = UInt64.ofNat (a &&& b) := UInt64.toNat_inj.mp (by rw [UInt64.toNat_and, u_tn ha, u_tn hb, u_tn (Nat.and_lt_two_pow a hb)])
  have h2 := congrArg UInt64.toInt64 h
  exact h2
theorem g_and1 {a : Nat} (ha : a < 2 ^ 64) : lN a &&& 1 = lN (a % 2) := g_and (b := 1) ha (by decide) (Nat.and_two_pow_sub_one_eq_mod a 1)
theorem g_mask {a s p : Nat} (hp : 2 ^ s = p) (hs : s < 64) (ha : a < 2 ^ 64) : lN a &&& lN (p - 1) = lN (a % p) := by
  subst hp
  have := Nat.pow_lt_pow_right (show 1 < 2 by decide) hs
  exact g_and ha (by omega) (Nat.and_two_pow_sub_one_eq_mod a s)
theorem g_or {k p a b : Nat} (hp : 2 ^ k = p) (ha : a < p) (h : b * p + a < 2 ^ 64) : lN (b * p) ||| lN a = lN (b * p + a) := by
  subst hp
  have h1 : b * 2 ^ k ||| a = b * 2 ^ k + a := by rw [← Nat.shiftLeft_eq, Nat.shiftLeft_add_eq_or_of_lt ha]
  have h3 : UInt64.ofNat (b * 2 ^ k) ||| UInt64.ofNat a = UInt64.ofNat (b * 2 ^ k + a) := UInt64.toNat_inj.mp (by rw [UInt64.toNat_or, u_tn (by omega), u_tn (by omega), u_tn h, h1])
  have h2 := congrArg UInt64.toInt64 h3
  exact h2
theorem g_or' {k p a b : Nat} (hp : 2 ^ k = p) (ha : a < p) (h : a + b * p < 2 ^ 64) : lN a ||| lN (b * p) = lN (a + b * p) := by
  rw [Int64.or_comm, g_or hp ha (by omega), Nat.add_comm]
theorem g_ushr {a k p : Nat} {y : UInt64} (hy : y = UInt64.ofNat k) (hk : k < 64) (hp : 2 ^ k = p) (ha : a < 2 ^ 64) : ((lN a).toUInt64 >>> y).toInt64 = lN (a / p) := by
  subst hy hp
  have h : UInt64.ofNat a >>> UInt64.ofNat k = UInt64.ofNat (a / 2 ^ k) := UInt64.toNat_inj.mp (by rw [UInt64.toNat_shiftRight, u_tn ha, u_tn (by omega), u_tn (Nat.lt_of_le_of_lt (Nat.div_le_self _ _) ha), Nat.mod_eq_of_lt hk, Nat.shiftRight_eq_div_pow])
  have h2 := congrArg UInt64.toInt64 h
  exact h2
theorem g_shl {a k p : Nat} {y : Int64} (hy : y.toBitVec.smod 64 = BitVec.ofNat 64 k) (hk : k < 64) (hp : 2 ^ k = p) (ha : a < 2 ^ 64) : lN a <<< y = lN (a * p) := by
  subst hp
  apply Int64.toBitVec_inj.mp
  rw [Int64.toBitVec_shiftLeft, hy]
  apply BitVec.eq_of_toNat_eq
  have hb : (lN a).toBitVec.toNat = a := Nat.mod_eq_of_lt ha
  have hk' : (BitVec.ofNat 64 k).toNat = k := Nat.mod_eq_of_lt (by omega)
  have h : ((lN a).toBitVec <<< BitVec.ofNat 64 k).toNat = (a * 2 ^ k) % 2 ^ 64 := by simp only [BitVec.shiftLeft_eq', BitVec.toNat_shiftLeft, hb, hk', Nat.shiftLeft_eq]
  exact h
end
section
def ty_WE : Nat → FieldType := fun k => match k with
  | 0 => .int
  | 1 => .object "WordEvidence$Text"
  | 2 => .object "WordEvidence$Shelf"
  | 3 => .object "WordEvidence$Shelf"
  | 4 => .object "WordEvidence$Log"
  | _ => .object "WordEvidence$Chances"
theorem in_WE : ∀ x ∈ u_ws "WordEvidence" T_WE 6, x ∈ lw_tbl := by decide +kernel
theorem zg_WE : ((u_ws "WordEvidence" T_WE 6).all zw_g) = true := by decide +kernel
theorem cf_WE : zw_cf 0 "WordEvidence" T_WE 6 := ⟨rfl, fun x hx => zw_inT (in_WE x hx) (List.all_eq_true.mp zg_WE x hx), ⟨ty_WE, by decide +kernel⟩, by decide +kernel⟩
def ty_Text : Nat → FieldType := fun k => match k with
  | 0 => .array .long
  | 1 => .int
  | 2 => .int
  | _ => .int
theorem in_Text : ∀ x ∈ u_ws "WordEvidence$Text" T_Text 4, x ∈ lw_tbl := by decide +kernel
theorem zg_Text : ((u_ws "WordEvidence$Text" T_Text 4).all zw_g) = true := by decide +kernel
theorem cf_Text : zw_cf 1 "WordEvidence$Text" T_Text 4 := ⟨rfl, fun x hx => zw_inT (in_Text x hx) (List.all_eq_true.mp zg_Text x hx), ⟨ty_Text, by decide +kernel⟩, by decide +kernel⟩
def ty_Shelf : Nat → FieldType := fun k => match k with
  | 0 => .array (.object "WordEvidence$Document")
  | _ => .array .long
theorem in_Shelf : ∀ x ∈ u_ws "WordEvidence$Shelf" T_Shelf 2, x ∈ lw_tbl := by decide +kernel
theorem zg_Shelf : ((u_ws "WordEvidence$Shelf" T_Shelf 2).all zw_g) = true := by decide +kernel
theorem cf_Shelf : zw_cf 2 "WordEvidence$Shelf" T_Shelf 2 := ⟨rfl, fun x hx => zw_inT (in_Shelf x hx) (List.all_eq_true.mp zg_Shelf x hx), ⟨ty_Shelf, by decide +kernel⟩, by decide +kernel⟩
def ty_Log : Nat → FieldType := fun k => match k with
  | 0 => .array .int
  | 1 => .array .int
  | 2 => .array (.object "WordEvidence$Document")
  | 3 => .int
  | _ => .int
theorem in_Log : ∀ x ∈ u_ws "WordEvidence$Log" T_Log 5, x ∈ lw_tbl := by decide +kernel
theorem zg_Log : ((u_ws "WordEvidence$Log" T_Log 5).all zw_g) = true := by decide +kernel
theorem cf_Log : zw_cf 3 "WordEvidence$Log" T_Log 5 := ⟨rfl, fun x hx => zw_inT (in_Log x hx) (List.all_eq_true.mp zg_Log x hx), ⟨ty_Log, by decide +kernel⟩, by decide +kernel⟩
def ty_Chances : Nat → FieldType := fun k => match k with
  | 0 => .array .int
  | 1 => .array (.array .int)
  | 2 => .array .int
  | 3 => .object "WordEvidence$Product"
  | 4 => .object "WordEvidence$Product"
  | 5 => .int
  | _ => .int
theorem in_Chances : ∀ x ∈ u_ws "WordEvidence$Chances" T_Chances 7, x ∈ lw_tbl := by decide +kernel
theorem zg_Chances : ((u_ws "WordEvidence$Chances" T_Chances 7).all zw_g) = true := by decide +kernel
theorem cf_Chances : zw_cf 4 "WordEvidence$Chances" T_Chances 7 := ⟨rfl, fun x hx => zw_inT (in_Chances x hx) (List.all_eq_true.mp zg_Chances x hx), ⟨ty_Chances, by decide +kernel⟩, by decide +kernel⟩
def ty_Product : Nat → FieldType := fun k => match k with
  | _ => .array .long
theorem in_Product : ∀ x ∈ u_ws "WordEvidence$Product" T_Product 1, x ∈ lw_tbl := by decide +kernel
theorem zg_Product : ((u_ws "WordEvidence$Product" T_Product 1).all zw_g) = true := by decide +kernel
theorem cf_Product : zw_cf 5 "WordEvidence$Product" T_Product 1 := ⟨rfl, fun x hx => zw_inT (in_Product x hx) (List.all_eq_true.mp zg_Product x hx), ⟨ty_Product, by decide +kernel⟩, by decide +kernel⟩
def ty_Document : Nat → FieldType := fun k => match k with
  | 0 => .int
  | _ => .array .long
theorem in_Document : ∀ x ∈ u_ws "WordEvidence$Document" T_Document 2, x ∈ lw_tbl := by decide +kernel
theorem zg_Document : ((u_ws "WordEvidence$Document" T_Document 2).all zw_g) = true := by decide +kernel
theorem cf_Document : zw_cf 6 "WordEvidence$Document" T_Document 2 := ⟨rfl, fun x hx => zw_inT (in_Document x hx) (List.all_eq_true.mp zg_Document x hx), ⟨ty_Document, by decide +kernel⟩, by decide +kernel⟩
def ty_Mo : Nat → FieldType := fun k => match k with
  | 0 => .int
  | 1 => .array .int
  | 2 => .int
  | 3 => .array .long
  | 4 => .array .int
  | 5 => .int
  | 6 => .array .int
  | 7 => .array .int
  | 8 => .array .long
  | 9 => .int
  | 10 => .array .int
  | 11 => .array .int
  | 12 => .array .int
  | 13 => .array .int
  | 14 => .array .long
  | 15 => .array .int
  | _ => .array .int
theorem in_Mo : ∀ x ∈ u_ws "WordEvidenceModel" T_Mo 17, x ∈ lw_tbl := by decide +kernel
theorem zg_Mo : ((u_ws "WordEvidenceModel" T_Mo 17).all zw_g) = true := by decide +kernel
theorem cf_Mo : zw_cf 7 "WordEvidenceModel" T_Mo 17 := ⟨rfl, fun x hx => zw_inT (in_Mo x hx) (List.all_eq_true.mp zg_Mo x hx), ⟨ty_Mo, by decide +kernel⟩, by decide +kernel⟩
theorem g_WE_10 : zw_fg "WordEvidence" 10 0 1 := ⟨_, _, _, cf_WE, by decide, Or.inl (zw_inT (List.mem_of_getElem? (i := 150) (by decide +kernel)) rfl)⟩
theorem f_WE_10 : zw_fl "WordEvidence" 10 0 1 (.object "WordEvidence$Text") true := ⟨_, _, _, cf_WE, by decide, Or.inl (zw_inT (List.mem_of_getElem? (i := 150) (by decide +kernel)) rfl), rfl, by decide +kernel, fun _ => ⟨rfl, (zw_inT (List.mem_of_getElem? (i := 150) (by decide +kernel)) rfl)⟩⟩
theorem g_WE_19 : zw_fg "WordEvidence" 19 0 2 := ⟨_, _, _, cf_WE, by decide, Or.inl (zw_inT (List.mem_of_getElem? (i := 151) (by decide +kernel)) rfl)⟩
theorem f_WE_19 : zw_fl "WordEvidence" 19 0 2 (.object "WordEvidence$Shelf") true := ⟨_, _, _, cf_WE, by decide, Or.inl (zw_inT (List.mem_of_getElem? (i := 151) (by decide +kernel)) rfl), rfl, by decide +kernel, fun _ => ⟨rfl, (zw_inT (List.mem_of_getElem? (i := 151) (by decide +kernel)) rfl)⟩⟩
theorem g_WE_23 : zw_fg "WordEvidence" 23 0 3 := ⟨_, _, _, cf_WE, by decide, Or.inl (zw_inT (List.mem_of_getElem? (i := 152) (by decide +kernel)) rfl)⟩
theorem f_WE_23 : zw_fl "WordEvidence" 23 0 3 (.object "WordEvidence$Shelf") true := ⟨_, _, _, cf_WE, by decide, Or.inl (zw_inT (List.mem_of_getElem? (i := 152) (by decide +kernel)) rfl), rfl, by decide +kernel, fun _ => ⟨rfl, (zw_inT (List.mem_of_getElem? (i := 152) (by decide +kernel)) rfl)⟩⟩
theorem g_WE_29 : zw_fg "WordEvidence" 29 0 4 := ⟨_, _, _, cf_WE, by decide, Or.inl (zw_inT (List.mem_of_getElem? (i := 153) (by decide +kernel)) rfl)⟩
theorem f_WE_29 : zw_fl "WordEvidence" 29 0 4 (.object "WordEvidence$Log") true := ⟨_, _, _, cf_WE, by decide, Or.inl (zw_inT (List.mem_of_getElem? (i := 153) (by decide +kernel)) rfl), rfl, by decide +kernel, fun _ => ⟨rfl, (zw_inT (List.mem_of_getElem? (i := 153) (by decide +kernel)) rfl)⟩⟩
theorem g_WE_36 : zw_fg "WordEvidence" 36 0 5 := ⟨_, _, _, cf_WE, by decide, Or.inl (zw_inT (List.mem_of_getElem? (i := 154) (by decide +kernel)) rfl)⟩
theorem f_WE_36 : zw_fl "WordEvidence" 36 0 5 (.object "WordEvidence$Chances") true := ⟨_, _, _, cf_WE, by decide, Or.inl (zw_inT (List.mem_of_getElem? (i := 154) (by decide +kernel)) rfl), rfl, by decide +kernel, fun _ => ⟨rfl, (zw_inT (List.mem_of_getElem? (i := 154) (by decide +kernel)) rfl)⟩⟩
theorem g_WE_49 : zw_fg "WordEvidence" 49 0 0 := ⟨_, _, _, cf_WE, by decide, Or.inl (zw_inT (List.mem_of_getElem? (i := 149) (by decide +kernel)) rfl)⟩
theorem f_WE_49 : zw_fl "WordEvidence" 49 0 0 (.int) true := ⟨_, _, _, cf_WE, by decide, Or.inl (zw_inT (List.mem_of_getElem? (i := 149) (by decide +kernel)) rfl), rfl, by decide +kernel, fun _ => ⟨rfl, (zw_inT (List.mem_of_getElem? (i := 149) (by decide +kernel)) rfl)⟩⟩
theorem g_WE_61 : zw_fg "WordEvidence" 61 1 1 := ⟨_, _, _, cf_Text, by decide, Or.inl (zw_inT (List.mem_of_getElem? (i := 50) (by decide +kernel)) rfl)⟩
theorem f_WE_61 : zw_fl "WordEvidence" 61 1 1 (.int) false := ⟨_, _, _, cf_Text, by decide, Or.inl (zw_inT (List.mem_of_getElem? (i := 50) (by decide +kernel)) rfl), rfl, by decide +kernel, fun h => absurd h (by decide)⟩
theorem g_WE_68 : zw_fg "WordEvidence" 68 1 0 := ⟨_, _, _, cf_Text, by decide, Or.inl (zw_inT (List.mem_of_getElem? (i := 47) (by decide +kernel)) rfl)⟩
theorem g_WE_111 : zw_fg "WordEvidence" 111 6 0 := ⟨_, _, _, cf_Document, by decide, Or.inl (zw_inT (List.mem_of_getElem? (i := 262) (by decide +kernel)) rfl)⟩
theorem g_WE_123 : zw_fg "WordEvidence" 123 3 4 := ⟨_, _, _, cf_Log, by decide, Or.inl (zw_inT (List.mem_of_getElem? (i := 90) (by decide +kernel)) rfl)⟩
theorem f_WE_123 : zw_fl "WordEvidence" 123 3 4 (.int) false := ⟨_, _, _, cf_Log, by decide, Or.inl (zw_inT (List.mem_of_getElem? (i := 90) (by decide +kernel)) rfl), rfl, by decide +kernel, fun h => absurd h (by decide)⟩
theorem g_Chances_9 : zw_fg "WordEvidence$Chances" 9 4 0 := ⟨_, _, _, cf_Chances, by decide, Or.inl (zw_inT (List.mem_of_getElem? (i := 121) (by decide +kernel)) rfl)⟩
theorem f_Chances_9 : zw_fl "WordEvidence$Chances" 9 4 0 (.array .int) true := ⟨_, _, _, cf_Chances, by decide, Or.inl (zw_inT (List.mem_of_getElem? (i := 121) (by decide +kernel)) rfl), rfl, by decide +kernel, fun _ => ⟨rfl, (zw_inT (List.mem_of_getElem? (i := 121) (by decide +kernel)) rfl)⟩⟩
theorem g_Chances_17 : zw_fg "WordEvidence$Chances" 17 4 1 := ⟨_, _, _, cf_Chances, by decide, Or.inl (zw_inT (List.mem_of_getElem? (i := 122) (by decide +kernel)) rfl)⟩
theorem f_Chances_17 : zw_fl "WordEvidence$Chances" 17 4 1 (.array (.array .int)) true := ⟨_, _, _, cf_Chances, by decide, Or.inl (zw_inT (List.mem_of_getElem? (i := 122) (by decide +kernel)) rfl), rfl, by decide +kernel, fun _ => ⟨rfl, (zw_inT (List.mem_of_getElem? (i := 122) (by decide +kernel)) rfl)⟩⟩
theorem g_Chances_20 : zw_fg "WordEvidence$Chances" 20 4 2 := ⟨_, _, _, cf_Chances, by decide, Or.inl (zw_inT (List.mem_of_getElem? (i := 123) (by decide +kernel)) rfl)⟩
theorem f_Chances_20 : zw_fl "WordEvidence$Chances" 20 4 2 (.array .int) true := ⟨_, _, _, cf_Chances, by decide, Or.inl (zw_inT (List.mem_of_getElem? (i := 123) (by decide +kernel)) rfl), rfl, by decide +kernel, fun _ => ⟨rfl, (zw_inT (List.mem_of_getElem? (i := 123) (by decide +kernel)) rfl)⟩⟩
theorem g_Chances_26 : zw_fg "WordEvidence$Chances" 26 4 3 := ⟨_, _, _, cf_Chances, by decide, Or.inl (zw_inT (List.mem_of_getElem? (i := 124) (by decide +kernel)) rfl)⟩
theorem f_Chances_26 : zw_fl "WordEvidence$Chances" 26 4 3 (.object "WordEvidence$Product") true := ⟨_, _, _, cf_Chances, by decide, Or.inl (zw_inT (List.mem_of_getElem? (i := 124) (by decide +kernel)) rfl), rfl, by decide +kernel, fun _ => ⟨rfl, (zw_inT (List.mem_of_getElem? (i := 124) (by decide +kernel)) rfl)⟩⟩
theorem g_Chances_30 : zw_fg "WordEvidence$Chances" 30 4 4 := ⟨_, _, _, cf_Chances, by decide, Or.inl (zw_inT (List.mem_of_getElem? (i := 125) (by decide +kernel)) rfl)⟩
theorem f_Chances_30 : zw_fl "WordEvidence$Chances" 30 4 4 (.object "WordEvidence$Product") true := ⟨_, _, _, cf_Chances, by decide, Or.inl (zw_inT (List.mem_of_getElem? (i := 125) (by decide +kernel)) rfl), rfl, by decide +kernel, fun _ => ⟨rfl, (zw_inT (List.mem_of_getElem? (i := 125) (by decide +kernel)) rfl)⟩⟩
theorem g_Chances_33 : zw_fg "WordEvidence$Chances" 33 4 5 := ⟨_, _, _, cf_Chances, by decide, Or.inl (zw_inT (List.mem_of_getElem? (i := 126) (by decide +kernel)) rfl)⟩
theorem f_Chances_33 : zw_fl "WordEvidence$Chances" 33 4 5 (.int) false := ⟨_, _, _, cf_Chances, by decide, Or.inl (zw_inT (List.mem_of_getElem? (i := 126) (by decide +kernel)) rfl), rfl, by decide +kernel, fun h => absurd h (by decide)⟩
theorem g_Chances_37 : zw_fg "WordEvidence$Chances" 37 4 6 := ⟨_, _, _, cf_Chances, by decide, Or.inl (zw_inT (List.mem_of_getElem? (i := 127) (by decide +kernel)) rfl)⟩
theorem f_Chances_37 : zw_fl "WordEvidence$Chances" 37 4 6 (.int) false := ⟨_, _, _, cf_Chances, by decide, Or.inl (zw_inT (List.mem_of_getElem? (i := 127) (by decide +kernel)) rfl), rfl, by decide +kernel, fun h => absurd h (by decide)⟩
theorem g_Chances_40 : zw_fg "WordEvidence$Chances" 40 1 1 := ⟨_, _, _, cf_Text, by decide, Or.inl (zw_inT (List.mem_of_getElem? (i := 49) (by decide +kernel)) rfl)⟩
theorem f_Chances_40 : zw_fl "WordEvidence$Chances" 40 1 1 (.int) false := ⟨_, _, _, cf_Text, by decide, Or.inl (zw_inT (List.mem_of_getElem? (i := 49) (by decide +kernel)) rfl), rfl, by decide +kernel, fun h => absurd h (by decide)⟩
theorem g_Chances_56 : zw_fg "WordEvidence$Chances" 56 1 0 := ⟨_, _, _, cf_Text, by decide, Or.inl (zw_inT (List.mem_of_getElem? (i := 46) (by decide +kernel)) rfl)⟩
theorem g_Document_7 : zw_fg "WordEvidence$Document" 7 6 0 := ⟨_, _, _, cf_Document, by decide, Or.inl (zw_inT (List.mem_of_getElem? (i := 260) (by decide +kernel)) rfl)⟩
theorem f_Document_7 : zw_fl "WordEvidence$Document" 7 6 0 (.int) true := ⟨_, _, _, cf_Document, by decide, Or.inl (zw_inT (List.mem_of_getElem? (i := 260) (by decide +kernel)) rfl), rfl, by decide +kernel, fun _ => ⟨rfl, (zw_inT (List.mem_of_getElem? (i := 260) (by decide +kernel)) rfl)⟩⟩
theorem g_Document_13 : zw_fg "WordEvidence$Document" 13 6 1 := ⟨_, _, _, cf_Document, by decide, Or.inl (zw_inT (List.mem_of_getElem? (i := 263) (by decide +kernel)) rfl)⟩
theorem f_Document_13 : zw_fl "WordEvidence$Document" 13 6 1 (.array .long) true := ⟨_, _, _, cf_Document, by decide, Or.inl (zw_inT (List.mem_of_getElem? (i := 263) (by decide +kernel)) rfl), rfl, by decide +kernel, fun _ => ⟨rfl, (zw_inT (List.mem_of_getElem? (i := 263) (by decide +kernel)) rfl)⟩⟩
theorem g_Log_9 : zw_fg "WordEvidence$Log" 9 3 0 := ⟨_, _, _, cf_Log, by decide, Or.inl (zw_inT (List.mem_of_getElem? (i := 85) (by decide +kernel)) rfl)⟩
theorem f_Log_9 : zw_fl "WordEvidence$Log" 9 3 0 (.array .int) true := ⟨_, _, _, cf_Log, by decide, Or.inl (zw_inT (List.mem_of_getElem? (i := 85) (by decide +kernel)) rfl), rfl, by decide +kernel, fun _ => ⟨rfl, (zw_inT (List.mem_of_getElem? (i := 85) (by decide +kernel)) rfl)⟩⟩
theorem g_Log_15 : zw_fg "WordEvidence$Log" 15 3 1 := ⟨_, _, _, cf_Log, by decide, Or.inl (zw_inT (List.mem_of_getElem? (i := 86) (by decide +kernel)) rfl)⟩
theorem f_Log_15 : zw_fl "WordEvidence$Log" 15 3 1 (.array .int) true := ⟨_, _, _, cf_Log, by decide, Or.inl (zw_inT (List.mem_of_getElem? (i := 86) (by decide +kernel)) rfl), rfl, by decide +kernel, fun _ => ⟨rfl, (zw_inT (List.mem_of_getElem? (i := 86) (by decide +kernel)) rfl)⟩⟩
theorem g_Log_20 : zw_fg "WordEvidence$Log" 20 3 2 := ⟨_, _, _, cf_Log, by decide, Or.inl (zw_inT (List.mem_of_getElem? (i := 87) (by decide +kernel)) rfl)⟩
theorem f_Log_20 : zw_fl "WordEvidence$Log" 20 3 2 (.array (.object "WordEvidence$Document")) true := ⟨_, _, _, cf_Log, by decide, Or.inl (zw_inT (List.mem_of_getElem? (i := 87) (by decide +kernel)) rfl), rfl, by decide +kernel, fun _ => ⟨rfl, (zw_inT (List.mem_of_getElem? (i := 87) (by decide +kernel)) rfl)⟩⟩
theorem g_Log_24 : zw_fg "WordEvidence$Log" 24 3 3 := ⟨_, _, _, cf_Log, by decide, Or.inl (zw_inT (List.mem_of_getElem? (i := 88) (by decide +kernel)) rfl)⟩
theorem f_Log_24 : zw_fl "WordEvidence$Log" 24 3 3 (.int) false := ⟨_, _, _, cf_Log, by decide, Or.inl (zw_inT (List.mem_of_getElem? (i := 88) (by decide +kernel)) rfl), rfl, by decide +kernel, fun h => absurd h (by decide)⟩
theorem g_Log_28 : zw_fg "WordEvidence$Log" 28 3 4 := ⟨_, _, _, cf_Log, by decide, Or.inl (zw_inT (List.mem_of_getElem? (i := 89) (by decide +kernel)) rfl)⟩
theorem f_Log_28 : zw_fl "WordEvidence$Log" 28 3 4 (.int) false := ⟨_, _, _, cf_Log, by decide, Or.inl (zw_inT (List.mem_of_getElem? (i := 89) (by decide +kernel)) rfl), rfl, by decide +kernel, fun h => absurd h (by decide)⟩
theorem g_Product_9 : zw_fg "WordEvidence$Product" 9 5 0 := ⟨_, _, _, cf_Product, by decide, Or.inl (zw_inT (List.mem_of_getElem? (i := 117) (by decide +kernel)) rfl)⟩
theorem f_Product_9 : zw_fl "WordEvidence$Product" 9 5 0 (.array .long) true := ⟨_, _, _, cf_Product, by decide, Or.inl (zw_inT (List.mem_of_getElem? (i := 117) (by decide +kernel)) rfl), rfl, by decide +kernel, fun _ => ⟨rfl, (zw_inT (List.mem_of_getElem? (i := 117) (by decide +kernel)) rfl)⟩⟩
theorem g_Shelf_11 : zw_fg "WordEvidence$Shelf" 11 2 0 := ⟨_, _, _, cf_Shelf, by decide, Or.inl (zw_inT (List.mem_of_getElem? (i := 71) (by decide +kernel)) rfl)⟩
theorem f_Shelf_11 : zw_fl "WordEvidence$Shelf" 11 2 0 (.array (.object "WordEvidence$Document")) true := ⟨_, _, _, cf_Shelf, by decide, Or.inl (zw_inT (List.mem_of_getElem? (i := 71) (by decide +kernel)) rfl), rfl, by decide +kernel, fun _ => ⟨rfl, (zw_inT (List.mem_of_getElem? (i := 71) (by decide +kernel)) rfl)⟩⟩
theorem g_Shelf_17 : zw_fg "WordEvidence$Shelf" 17 2 1 := ⟨_, _, _, cf_Shelf, by decide, Or.inl (zw_inT (List.mem_of_getElem? (i := 72) (by decide +kernel)) rfl)⟩
theorem f_Shelf_17 : zw_fl "WordEvidence$Shelf" 17 2 1 (.array .long) true := ⟨_, _, _, cf_Shelf, by decide, Or.inl (zw_inT (List.mem_of_getElem? (i := 72) (by decide +kernel)) rfl), rfl, by decide +kernel, fun _ => ⟨rfl, (zw_inT (List.mem_of_getElem? (i := 72) (by decide +kernel)) rfl)⟩⟩
theorem g_Shelf_25 : zw_fg "WordEvidence$Shelf" 25 6 0 := ⟨_, _, _, cf_Document, by decide, Or.inl (zw_inT (List.mem_of_getElem? (i := 261) (by decide +kernel)) rfl)⟩
theorem g_Shelf_29 : zw_fg "WordEvidence$Shelf" 29 6 1 := ⟨_, _, _, cf_Document, by decide, Or.inl (zw_inT (List.mem_of_getElem? (i := 264) (by decide +kernel)) rfl)⟩
theorem g_Text_9 : zw_fg "WordEvidence$Text" 9 1 0 := ⟨_, _, _, cf_Text, by decide, Or.inl (zw_inT (List.mem_of_getElem? (i := 45) (by decide +kernel)) rfl)⟩
theorem f_Text_9 : zw_fl "WordEvidence$Text" 9 1 0 (.array .long) true := ⟨_, _, _, cf_Text, by decide, Or.inl (zw_inT (List.mem_of_getElem? (i := 45) (by decide +kernel)) rfl), rfl, by decide +kernel, fun _ => ⟨rfl, (zw_inT (List.mem_of_getElem? (i := 45) (by decide +kernel)) rfl)⟩⟩
theorem g_Text_15 : zw_fg "WordEvidence$Text" 15 1 1 := ⟨_, _, _, cf_Text, by decide, Or.inl (zw_inT (List.mem_of_getElem? (i := 48) (by decide +kernel)) rfl)⟩
theorem f_Text_15 : zw_fl "WordEvidence$Text" 15 1 1 (.int) false := ⟨_, _, _, cf_Text, by decide, Or.inl (zw_inT (List.mem_of_getElem? (i := 48) (by decide +kernel)) rfl), rfl, by decide +kernel, fun h => absurd h (by decide)⟩
theorem g_Text_19 : zw_fg "WordEvidence$Text" 19 1 2 := ⟨_, _, _, cf_Text, by decide, Or.inl (zw_inT (List.mem_of_getElem? (i := 51) (by decide +kernel)) rfl)⟩
theorem f_Text_19 : zw_fl "WordEvidence$Text" 19 1 2 (.int) false := ⟨_, _, _, cf_Text, by decide, Or.inl (zw_inT (List.mem_of_getElem? (i := 51) (by decide +kernel)) rfl), rfl, by decide +kernel, fun h => absurd h (by decide)⟩
theorem g_Text_22 : zw_fg "WordEvidence$Text" 22 1 3 := ⟨_, _, _, cf_Text, by decide, Or.inl (zw_inT (List.mem_of_getElem? (i := 52) (by decide +kernel)) rfl)⟩
theorem f_Text_22 : zw_fl "WordEvidence$Text" 22 1 3 (.int) false := ⟨_, _, _, cf_Text, by decide, Or.inl (zw_inT (List.mem_of_getElem? (i := 52) (by decide +kernel)) rfl), rfl, by decide +kernel, fun h => absurd h (by decide)⟩
theorem g_Mo_7 : zw_fg "WordEvidenceModel" 7 7 1 := ⟨_, _, _, cf_Mo, by decide, Or.inl (zw_inT (List.mem_of_getElem? (i := 423) (by decide +kernel)) rfl)⟩
theorem f_Mo_7 : zw_fl "WordEvidenceModel" 7 7 1 (.array .int) true := ⟨_, _, _, cf_Mo, by decide, Or.inl (zw_inT (List.mem_of_getElem? (i := 423) (by decide +kernel)) rfl), rfl, by decide +kernel, fun _ => ⟨rfl, (zw_inT (List.mem_of_getElem? (i := 423) (by decide +kernel)) rfl)⟩⟩
theorem g_Mo_13 : zw_fg "WordEvidenceModel" 13 7 3 := ⟨_, _, _, cf_Mo, by decide, Or.inl (zw_inT (List.mem_of_getElem? (i := 425) (by decide +kernel)) rfl)⟩
theorem f_Mo_13 : zw_fl "WordEvidenceModel" 13 7 3 (.array .long) true := ⟨_, _, _, cf_Mo, by decide, Or.inl (zw_inT (List.mem_of_getElem? (i := 425) (by decide +kernel)) rfl), rfl, by decide +kernel, fun _ => ⟨rfl, (zw_inT (List.mem_of_getElem? (i := 425) (by decide +kernel)) rfl)⟩⟩
theorem g_Mo_17 : zw_fg "WordEvidenceModel" 17 7 4 := ⟨_, _, _, cf_Mo, by decide, Or.inl (zw_inT (List.mem_of_getElem? (i := 426) (by decide +kernel)) rfl)⟩
theorem f_Mo_17 : zw_fl "WordEvidenceModel" 17 7 4 (.array .int) true := ⟨_, _, _, cf_Mo, by decide, Or.inl (zw_inT (List.mem_of_getElem? (i := 426) (by decide +kernel)) rfl), rfl, by decide +kernel, fun _ => ⟨rfl, (zw_inT (List.mem_of_getElem? (i := 426) (by decide +kernel)) rfl)⟩⟩
theorem g_Mo_20 : zw_fg "WordEvidenceModel" 20 7 6 := ⟨_, _, _, cf_Mo, by decide, Or.inl (zw_inT (List.mem_of_getElem? (i := 428) (by decide +kernel)) rfl)⟩
theorem f_Mo_20 : zw_fl "WordEvidenceModel" 20 7 6 (.array .int) true := ⟨_, _, _, cf_Mo, by decide, Or.inl (zw_inT (List.mem_of_getElem? (i := 428) (by decide +kernel)) rfl), rfl, by decide +kernel, fun _ => ⟨rfl, (zw_inT (List.mem_of_getElem? (i := 428) (by decide +kernel)) rfl)⟩⟩
theorem g_Mo_23 : zw_fg "WordEvidenceModel" 23 7 7 := ⟨_, _, _, cf_Mo, by decide, Or.inl (zw_inT (List.mem_of_getElem? (i := 429) (by decide +kernel)) rfl)⟩
theorem f_Mo_23 : zw_fl "WordEvidenceModel" 23 7 7 (.array .int) true := ⟨_, _, _, cf_Mo, by decide, Or.inl (zw_inT (List.mem_of_getElem? (i := 429) (by decide +kernel)) rfl), rfl, by decide +kernel, fun _ => ⟨rfl, (zw_inT (List.mem_of_getElem? (i := 429) (by decide +kernel)) rfl)⟩⟩
theorem g_Mo_26 : zw_fg "WordEvidenceModel" 26 7 8 := ⟨_, _, _, cf_Mo, by decide, Or.inl (zw_inT (List.mem_of_getElem? (i := 430) (by decide +kernel)) rfl)⟩
theorem f_Mo_26 : zw_fl "WordEvidenceModel" 26 7 8 (.array .long) true := ⟨_, _, _, cf_Mo, by decide, Or.inl (zw_inT (List.mem_of_getElem? (i := 430) (by decide +kernel)) rfl), rfl, by decide +kernel, fun _ => ⟨rfl, (zw_inT (List.mem_of_getElem? (i := 430) (by decide +kernel)) rfl)⟩⟩
theorem g_Mo_29 : zw_fg "WordEvidenceModel" 29 7 10 := ⟨_, _, _, cf_Mo, by decide, Or.inl (zw_inT (List.mem_of_getElem? (i := 432) (by decide +kernel)) rfl)⟩
theorem f_Mo_29 : zw_fl "WordEvidenceModel" 29 7 10 (.array .int) true := ⟨_, _, _, cf_Mo, by decide, Or.inl (zw_inT (List.mem_of_getElem? (i := 432) (by decide +kernel)) rfl), rfl, by decide +kernel, fun _ => ⟨rfl, (zw_inT (List.mem_of_getElem? (i := 432) (by decide +kernel)) rfl)⟩⟩
theorem g_Mo_32 : zw_fg "WordEvidenceModel" 32 7 11 := ⟨_, _, _, cf_Mo, by decide, Or.inl (zw_inT (List.mem_of_getElem? (i := 433) (by decide +kernel)) rfl)⟩
theorem f_Mo_32 : zw_fl "WordEvidenceModel" 32 7 11 (.array .int) true := ⟨_, _, _, cf_Mo, by decide, Or.inl (zw_inT (List.mem_of_getElem? (i := 433) (by decide +kernel)) rfl), rfl, by decide +kernel, fun _ => ⟨rfl, (zw_inT (List.mem_of_getElem? (i := 433) (by decide +kernel)) rfl)⟩⟩
theorem g_Mo_35 : zw_fg "WordEvidenceModel" 35 7 12 := ⟨_, _, _, cf_Mo, by decide, Or.inl (zw_inT (List.mem_of_getElem? (i := 434) (by decide +kernel)) rfl)⟩
theorem f_Mo_35 : zw_fl "WordEvidenceModel" 35 7 12 (.array .int) true := ⟨_, _, _, cf_Mo, by decide, Or.inl (zw_inT (List.mem_of_getElem? (i := 434) (by decide +kernel)) rfl), rfl, by decide +kernel, fun _ => ⟨rfl, (zw_inT (List.mem_of_getElem? (i := 434) (by decide +kernel)) rfl)⟩⟩
theorem g_Mo_38 : zw_fg "WordEvidenceModel" 38 7 13 := ⟨_, _, _, cf_Mo, by decide, Or.inl (zw_inT (List.mem_of_getElem? (i := 435) (by decide +kernel)) rfl)⟩
theorem f_Mo_38 : zw_fl "WordEvidenceModel" 38 7 13 (.array .int) true := ⟨_, _, _, cf_Mo, by decide, Or.inl (zw_inT (List.mem_of_getElem? (i := 435) (by decide +kernel)) rfl), rfl, by decide +kernel, fun _ => ⟨rfl, (zw_inT (List.mem_of_getElem? (i := 435) (by decide +kernel)) rfl)⟩⟩
theorem g_Mo_41 : zw_fg "WordEvidenceModel" 41 7 14 := ⟨_, _, _, cf_Mo, by decide, Or.inl (zw_inT (List.mem_of_getElem? (i := 436) (by decide +kernel)) rfl)⟩
theorem f_Mo_41 : zw_fl "WordEvidenceModel" 41 7 14 (.array .long) true := ⟨_, _, _, cf_Mo, by decide, Or.inl (zw_inT (List.mem_of_getElem? (i := 436) (by decide +kernel)) rfl), rfl, by decide +kernel, fun _ => ⟨rfl, (zw_inT (List.mem_of_getElem? (i := 436) (by decide +kernel)) rfl)⟩⟩
theorem g_Mo_44 : zw_fg "WordEvidenceModel" 44 7 15 := ⟨_, _, _, cf_Mo, by decide, Or.inl (zw_inT (List.mem_of_getElem? (i := 437) (by decide +kernel)) rfl)⟩
theorem f_Mo_44 : zw_fl "WordEvidenceModel" 44 7 15 (.array .int) true := ⟨_, _, _, cf_Mo, by decide, Or.inl (zw_inT (List.mem_of_getElem? (i := 437) (by decide +kernel)) rfl), rfl, by decide +kernel, fun _ => ⟨rfl, (zw_inT (List.mem_of_getElem? (i := 437) (by decide +kernel)) rfl)⟩⟩
theorem g_Mo_47 : zw_fg "WordEvidenceModel" 47 7 16 := ⟨_, _, _, cf_Mo, by decide, Or.inl (zw_inT (List.mem_of_getElem? (i := 438) (by decide +kernel)) rfl)⟩
theorem f_Mo_47 : zw_fl "WordEvidenceModel" 47 7 16 (.array .int) true := ⟨_, _, _, cf_Mo, by decide, Or.inl (zw_inT (List.mem_of_getElem? (i := 438) (by decide +kernel)) rfl), rfl, by decide +kernel, fun _ => ⟨rfl, (zw_inT (List.mem_of_getElem? (i := 438) (by decide +kernel)) rfl)⟩⟩
theorem g_Mo_50 : zw_fg "WordEvidenceModel" 50 7 0 := ⟨_, _, _, cf_Mo, by decide, Or.inl (zw_inT (List.mem_of_getElem? (i := 422) (by decide +kernel)) rfl)⟩
theorem f_Mo_50 : zw_fl "WordEvidenceModel" 50 7 0 (.int) false := ⟨_, _, _, cf_Mo, by decide, Or.inl (zw_inT (List.mem_of_getElem? (i := 422) (by decide +kernel)) rfl), rfl, by decide +kernel, fun h => absurd h (by decide)⟩
theorem g_Mo_54 : zw_fg "WordEvidenceModel" 54 7 2 := ⟨_, _, _, cf_Mo, by decide, Or.inl (zw_inT (List.mem_of_getElem? (i := 424) (by decide +kernel)) rfl)⟩
theorem f_Mo_54 : zw_fl "WordEvidenceModel" 54 7 2 (.int) false := ⟨_, _, _, cf_Mo, by decide, Or.inl (zw_inT (List.mem_of_getElem? (i := 424) (by decide +kernel)) rfl), rfl, by decide +kernel, fun h => absurd h (by decide)⟩
theorem g_Mo_57 : zw_fg "WordEvidenceModel" 57 7 5 := ⟨_, _, _, cf_Mo, by decide, Or.inl (zw_inT (List.mem_of_getElem? (i := 427) (by decide +kernel)) rfl)⟩
theorem f_Mo_57 : zw_fl "WordEvidenceModel" 57 7 5 (.int) false := ⟨_, _, _, cf_Mo, by decide, Or.inl (zw_inT (List.mem_of_getElem? (i := 427) (by decide +kernel)) rfl), rfl, by decide +kernel, fun h => absurd h (by decide)⟩
theorem g_Mo_69 : zw_fg "WordEvidenceModel" 69 7 9 := ⟨_, _, _, cf_Mo, by decide, Or.inl (zw_inT (List.mem_of_getElem? (i := 431) (by decide +kernel)) rfl)⟩
theorem f_Mo_69 : zw_fl "WordEvidenceModel" 69 7 9 (.int) false := ⟨_, _, _, cf_Mo, by decide, Or.inl (zw_inT (List.mem_of_getElem? (i := 431) (by decide +kernel)) rfl), rfl, by decide +kernel, fun h => absurd h (by decide)⟩
theorem m_WE_init : zw_y Y_WE_init 1 := ⟨(zw_inT (List.mem_of_getElem? (i := 35) (by decide +kernel)) rfl), (zw_inT (List.mem_of_getElem? (i := 19) (by decide +kernel)) rfl), by decide +kernel, ⟨by decide +kernel, by decide +kernel⟩, by decide +kernel⟩
theorem i_WE_init : Y_WE_init.1.name = "<init>" ∧ Cond.instanceMethod Y_WE_init.1 ∈ zw_T := ⟨rfl, (zw_inT (List.mem_of_getElem? (i := 34) (by decide +kernel)) rfl)⟩
theorem m_Text_init : zw_y Y_Text_init 0 := ⟨(zw_inT (List.mem_of_getElem? (i := 43) (by decide +kernel)) rfl), (zw_inT (List.mem_of_getElem? (i := 20) (by decide +kernel)) rfl), by decide +kernel, ⟨by decide +kernel, by decide +kernel⟩, by decide +kernel⟩
theorem i_Text_init : Y_Text_init.1.name = "<init>" ∧ Cond.instanceMethod Y_Text_init.1 ∈ zw_T := ⟨rfl, (zw_inT (List.mem_of_getElem? (i := 42) (by decide +kernel)) rfl)⟩
theorem m_Shelf_init : zw_y Y_Shelf_init 0 := ⟨(zw_inT (List.mem_of_getElem? (i := 67) (by decide +kernel)) rfl), (zw_inT (List.mem_of_getElem? (i := 21) (by decide +kernel)) rfl), by decide +kernel, ⟨by decide +kernel, by decide +kernel⟩, by decide +kernel⟩
theorem i_Shelf_init : Y_Shelf_init.1.name = "<init>" ∧ Cond.instanceMethod Y_Shelf_init.1 ∈ zw_T := ⟨rfl, (zw_inT (List.mem_of_getElem? (i := 66) (by decide +kernel)) rfl)⟩
theorem m_Log_init : zw_y Y_Log_init 0 := ⟨(zw_inT (List.mem_of_getElem? (i := 82) (by decide +kernel)) rfl), (zw_inT (List.mem_of_getElem? (i := 22) (by decide +kernel)) rfl), by decide +kernel, ⟨by decide +kernel, by decide +kernel⟩, by decide +kernel⟩
theorem i_Log_init : Y_Log_init.1.name = "<init>" ∧ Cond.instanceMethod Y_Log_init.1 ∈ zw_T := ⟨rfl, (zw_inT (List.mem_of_getElem? (i := 81) (by decide +kernel)) rfl)⟩
theorem m_Chances_init : zw_y Y_Chances_init 0 := ⟨(zw_inT (List.mem_of_getElem? (i := 107) (by decide +kernel)) rfl), (zw_inT (List.mem_of_getElem? (i := 23) (by decide +kernel)) rfl), by decide +kernel, ⟨by decide +kernel, by decide +kernel⟩, by decide +kernel⟩
theorem i_Chances_init : Y_Chances_init.1.name = "<init>" ∧ Cond.instanceMethod Y_Chances_init.1 ∈ zw_T := ⟨rfl, (zw_inT (List.mem_of_getElem? (i := 106) (by decide +kernel)) rfl)⟩
theorem m_Product_init : zw_y Y_Product_init 0 := ⟨(zw_inT (List.mem_of_getElem? (i := 115) (by decide +kernel)) rfl), (zw_inT (List.mem_of_getElem? (i := 24) (by decide +kernel)) rfl), by decide +kernel, ⟨by decide +kernel, by decide +kernel⟩, by decide +kernel⟩
theorem i_Product_init : Y_Product_init.1.name = "<init>" ∧ Cond.instanceMethod Y_Product_init.1 ∈ zw_T := ⟨rfl, (zw_inT (List.mem_of_getElem? (i := 114) (by decide +kernel)) rfl)⟩
theorem m_WE_key : zw_y Y_WE_key 1 := ⟨(zw_inT (List.mem_of_getElem? (i := 171) (by decide +kernel)) rfl), (zw_inT (List.mem_of_getElem? (i := 19) (by decide +kernel)) rfl), by decide +kernel, ⟨by decide +kernel, by decide +kernel⟩, by decide +kernel⟩
theorem v_WE_key : Cond.instanceMethod Y_WE_key.1 ∈ zw_T ∧ Cond.selects Y_WE_key.1.cls Y_WE_key.1 Y_WE_key.1 ∈ zw_T := ⟨(zw_inT (List.mem_of_getElem? (i := 169) (by decide +kernel)) rfl), (zw_inT (List.mem_of_getElem? (i := 170) (by decide +kernel)) rfl)⟩
theorem m_Text_append : zw_y Y_Text_append 1 := ⟨(zw_inT (List.mem_of_getElem? (i := 175) (by decide +kernel)) rfl), (zw_inT (List.mem_of_getElem? (i := 20) (by decide +kernel)) rfl), by decide +kernel, ⟨by decide +kernel, by decide +kernel⟩, by decide +kernel⟩
theorem v_Text_append : Cond.instanceMethod Y_Text_append.1 ∈ zw_T ∧ Cond.selects Y_Text_append.1.cls Y_Text_append.1 Y_Text_append.1 ∈ zw_T := ⟨(zw_inT (List.mem_of_getElem? (i := 173) (by decide +kernel)) rfl), (zw_inT (List.mem_of_getElem? (i := 174) (by decide +kernel)) rfl)⟩
theorem m_Letters_fold : zw_y Y_Letters_fold 1 := ⟨(zw_inT (List.mem_of_getElem? (i := 178) (by decide +kernel)) rfl), (zw_inT (List.mem_of_getElem? (i := 27) (by decide +kernel)) rfl), by decide +kernel, ⟨by decide +kernel, by decide +kernel⟩, by decide +kernel⟩
theorem s_Letters_fold : Cond.static Y_Letters_fold.1 ∈ zw_T := (zw_inT (List.mem_of_getElem? (i := 177) (by decide +kernel)) rfl)
theorem m_Text_lengthenRun : zw_y Y_Text_lengthenRun 1 := ⟨(zw_inT (List.mem_of_getElem? (i := 182) (by decide +kernel)) rfl), (zw_inT (List.mem_of_getElem? (i := 20) (by decide +kernel)) rfl), by decide +kernel, ⟨by decide +kernel, by decide +kernel⟩, by decide +kernel⟩
theorem v_Text_lengthenRun : Cond.instanceMethod Y_Text_lengthenRun.1 ∈ zw_T ∧ Cond.selects Y_Text_lengthenRun.1.cls Y_Text_lengthenRun.1 Y_Text_lengthenRun.1 ∈ zw_T := ⟨(zw_inT (List.mem_of_getElem? (i := 181) (by decide +kernel)) rfl), (zw_inT (by decide +kernel) rfl)⟩
theorem m_Letters_with : zw_y Y_Letters_with 3 := ⟨(zw_inT (List.mem_of_getElem? (i := 185) (by decide +kernel)) rfl), (zw_inT (List.mem_of_getElem? (i := 27) (by decide +kernel)) rfl), by decide +kernel, ⟨by decide +kernel, by decide +kernel⟩, by decide +kernel⟩
theorem s_Letters_with : Cond.static Y_Letters_with.1 ∈ zw_T := (zw_inT (List.mem_of_getElem? (i := 184) (by decide +kernel)) rfl)
theorem m_WE_clear : zw_y Y_WE_clear 0 := ⟨(zw_inT (List.mem_of_getElem? (i := 189) (by decide +kernel)) rfl), (zw_inT (List.mem_of_getElem? (i := 19) (by decide +kernel)) rfl), by decide +kernel, ⟨by decide +kernel, by decide +kernel⟩, by decide +kernel⟩
theorem v_WE_clear : Cond.instanceMethod Y_WE_clear.1 ∈ zw_T ∧ Cond.selects Y_WE_clear.1.cls Y_WE_clear.1 Y_WE_clear.1 ∈ zw_T := ⟨(zw_inT (List.mem_of_getElem? (i := 187) (by decide +kernel)) rfl), (zw_inT (List.mem_of_getElem? (i := 188) (by decide +kernel)) rfl)⟩
theorem m_Text_empty : zw_y Y_Text_empty 0 := ⟨(zw_inT (List.mem_of_getElem? (i := 193) (by decide +kernel)) rfl), (zw_inT (List.mem_of_getElem? (i := 20) (by decide +kernel)) rfl), by decide +kernel, ⟨by decide +kernel, by decide +kernel⟩, by decide +kernel⟩
theorem v_Text_empty : Cond.instanceMethod Y_Text_empty.1 ∈ zw_T ∧ Cond.selects Y_Text_empty.1.cls Y_Text_empty.1 Y_Text_empty.1 ∈ zw_T := ⟨(zw_inT (List.mem_of_getElem? (i := 191) (by decide +kernel)) rfl), (zw_inT (List.mem_of_getElem? (i := 192) (by decide +kernel)) rfl)⟩
theorem m_WE_words : zw_y Y_WE_words 0 := ⟨(zw_inT (List.mem_of_getElem? (i := 197) (by decide +kernel)) rfl), (zw_inT (List.mem_of_getElem? (i := 19) (by decide +kernel)) rfl), by decide +kernel, ⟨by decide +kernel, by decide +kernel⟩, by decide +kernel⟩
theorem v_WE_words : Cond.instanceMethod Y_WE_words.1 ∈ zw_T ∧ Cond.selects Y_WE_words.1.cls Y_WE_words.1 Y_WE_words.1 ∈ zw_T := ⟨(zw_inT (List.mem_of_getElem? (i := 195) (by decide +kernel)) rfl), (zw_inT (List.mem_of_getElem? (i := 196) (by decide +kernel)) rfl)⟩
theorem m_WE_letter : zw_y Y_WE_letter 2 := ⟨(zw_inT (List.mem_of_getElem? (i := 201) (by decide +kernel)) rfl), (zw_inT (List.mem_of_getElem? (i := 19) (by decide +kernel)) rfl), by decide +kernel, ⟨by decide +kernel, by decide +kernel⟩, by decide +kernel⟩
theorem v_WE_letter : Cond.instanceMethod Y_WE_letter.1 ∈ zw_T ∧ Cond.selects Y_WE_letter.1.cls Y_WE_letter.1 Y_WE_letter.1 ∈ zw_T := ⟨(zw_inT (List.mem_of_getElem? (i := 199) (by decide +kernel)) rfl), (zw_inT (List.mem_of_getElem? (i := 200) (by decide +kernel)) rfl)⟩
theorem m_Text_hasWord : zw_y Y_Text_hasWord 1 := ⟨(zw_inT (List.mem_of_getElem? (i := 205) (by decide +kernel)) rfl), (zw_inT (List.mem_of_getElem? (i := 20) (by decide +kernel)) rfl), by decide +kernel, ⟨by decide +kernel, by decide +kernel⟩, by decide +kernel⟩
theorem v_Text_hasWord : Cond.instanceMethod Y_Text_hasWord.1 ∈ zw_T ∧ Cond.selects Y_Text_hasWord.1.cls Y_Text_hasWord.1 Y_Text_hasWord.1 ∈ zw_T := ⟨(zw_inT (List.mem_of_getElem? (i := 203) (by decide +kernel)) rfl), (zw_inT (List.mem_of_getElem? (i := 204) (by decide +kernel)) rfl)⟩
theorem m_Letters_at : zw_y Y_Letters_at 2 := ⟨(zw_inT (List.mem_of_getElem? (i := 208) (by decide +kernel)) rfl), (zw_inT (List.mem_of_getElem? (i := 27) (by decide +kernel)) rfl), by decide +kernel, ⟨by decide +kernel, by decide +kernel⟩, by decide +kernel⟩
theorem s_Letters_at : Cond.static Y_Letters_at.1 ∈ zw_T := (zw_inT (List.mem_of_getElem? (i := 207) (by decide +kernel)) rfl)
theorem m_WE_train : zw_y Y_WE_train 2 := ⟨(zw_inT (List.mem_of_getElem? (i := 212) (by decide +kernel)) rfl), (zw_inT (List.mem_of_getElem? (i := 19) (by decide +kernel)) rfl), by decide +kernel, ⟨by decide +kernel, by decide +kernel⟩, by decide +kernel⟩
theorem v_WE_train : Cond.instanceMethod Y_WE_train.1 ∈ zw_T ∧ Cond.selects Y_WE_train.1.cls Y_WE_train.1 Y_WE_train.1 ∈ zw_T := ⟨(zw_inT (List.mem_of_getElem? (i := 210) (by decide +kernel)) rfl), (zw_inT (List.mem_of_getElem? (i := 211) (by decide +kernel)) rfl)⟩
theorem m_WE_isId : zw_y Y_WE_isId 1 := ⟨(zw_inT (List.mem_of_getElem? (i := 215) (by decide +kernel)) rfl), (zw_inT (List.mem_of_getElem? (i := 19) (by decide +kernel)) rfl), by decide +kernel, ⟨by decide +kernel, by decide +kernel⟩, by decide +kernel⟩
theorem s_WE_isId : Cond.static Y_WE_isId.1 ∈ zw_T := (zw_inT (List.mem_of_getElem? (i := 214) (by decide +kernel)) rfl)
theorem m_WE_isClass : zw_y Y_WE_isClass 1 := ⟨(zw_inT (List.mem_of_getElem? (i := 219) (by decide +kernel)) rfl), (zw_inT (List.mem_of_getElem? (i := 19) (by decide +kernel)) rfl), by decide +kernel, ⟨by decide +kernel, by decide +kernel⟩, by decide +kernel⟩
theorem v_WE_isClass : Cond.instanceMethod Y_WE_isClass.1 ∈ zw_T ∧ Cond.selects Y_WE_isClass.1.cls Y_WE_isClass.1 Y_WE_isClass.1 ∈ zw_T := ⟨(zw_inT (List.mem_of_getElem? (i := 218) (by decide +kernel)) rfl), (zw_inT (by decide +kernel) rfl)⟩
theorem m_Shelf_find : zw_y Y_Shelf_find 1 := ⟨(zw_inT (List.mem_of_getElem? (i := 223) (by decide +kernel)) rfl), (zw_inT (List.mem_of_getElem? (i := 21) (by decide +kernel)) rfl), by decide +kernel, ⟨by decide +kernel, by decide +kernel⟩, by decide +kernel⟩
theorem v_Shelf_find : Cond.instanceMethod Y_Shelf_find.1 ∈ zw_T ∧ Cond.selects Y_Shelf_find.1.cls Y_Shelf_find.1 Y_Shelf_find.1 ∈ zw_T := ⟨(zw_inT (List.mem_of_getElem? (i := 221) (by decide +kernel)) rfl), (zw_inT (List.mem_of_getElem? (i := 222) (by decide +kernel)) rfl)⟩
theorem m_Shelf_size : zw_y Y_Shelf_size 0 := ⟨(zw_inT (List.mem_of_getElem? (i := 228) (by decide +kernel)) rfl), (zw_inT (List.mem_of_getElem? (i := 21) (by decide +kernel)) rfl), by decide +kernel, ⟨by decide +kernel, by decide +kernel⟩, by decide +kernel⟩
theorem v_Shelf_size : Cond.instanceMethod Y_Shelf_size.1 ∈ zw_T ∧ Cond.selects Y_Shelf_size.1.cls Y_Shelf_size.1 Y_Shelf_size.1 ∈ zw_T := ⟨(zw_inT (List.mem_of_getElem? (i := 226) (by decide +kernel)) rfl), (zw_inT (List.mem_of_getElem? (i := 227) (by decide +kernel)) rfl)⟩
theorem m_WE_blocksToTrain : zw_y Y_WE_blocksToTrain 1 := ⟨(zw_inT (List.mem_of_getElem? (i := 231) (by decide +kernel)) rfl), (zw_inT (List.mem_of_getElem? (i := 19) (by decide +kernel)) rfl), by decide +kernel, ⟨by decide +kernel, by decide +kernel⟩, by decide +kernel⟩
theorem s_WE_blocksToTrain : Cond.static Y_WE_blocksToTrain.1 ∈ zw_T := (zw_inT (List.mem_of_getElem? (i := 230) (by decide +kernel)) rfl)
theorem m_Log_hasRoomFor : zw_y Y_Log_hasRoomFor 1 := ⟨(zw_inT (List.mem_of_getElem? (i := 235) (by decide +kernel)) rfl), (zw_inT (List.mem_of_getElem? (i := 22) (by decide +kernel)) rfl), by decide +kernel, ⟨by decide +kernel, by decide +kernel⟩, by decide +kernel⟩
theorem v_Log_hasRoomFor : Cond.instanceMethod Y_Log_hasRoomFor.1 ∈ zw_T ∧ Cond.selects Y_Log_hasRoomFor.1.cls Y_Log_hasRoomFor.1 Y_Log_hasRoomFor.1 ∈ zw_T := ⟨(zw_inT (List.mem_of_getElem? (i := 233) (by decide +kernel)) rfl), (zw_inT (List.mem_of_getElem? (i := 234) (by decide +kernel)) rfl)⟩
theorem m_Text_copyOfWords : zw_y Y_Text_copyOfWords 0 := ⟨(zw_inT (List.mem_of_getElem? (i := 241) (by decide +kernel)) rfl), (zw_inT (List.mem_of_getElem? (i := 20) (by decide +kernel)) rfl), by decide +kernel, ⟨by decide +kernel, by decide +kernel⟩, by decide +kernel⟩
theorem v_Text_copyOfWords : Cond.instanceMethod Y_Text_copyOfWords.1 ∈ zw_T ∧ Cond.selects Y_Text_copyOfWords.1.cls Y_Text_copyOfWords.1 Y_Text_copyOfWords.1 ∈ zw_T := ⟨(zw_inT (List.mem_of_getElem? (i := 239) (by decide +kernel)) rfl), (zw_inT (List.mem_of_getElem? (i := 240) (by decide +kernel)) rfl)⟩
theorem m_Arrays_copyOf : zw_y Y_Arrays_copyOf 2 := ⟨(zw_inT (List.mem_of_getElem? (i := 244) (by decide +kernel)) rfl), (zw_inT (List.mem_of_getElem? (i := 29) (by decide +kernel)) rfl), by decide +kernel, ⟨by decide +kernel, by decide +kernel⟩, by decide +kernel⟩
theorem s_Arrays_copyOf : Cond.static Y_Arrays_copyOf.1 ∈ zw_T := (zw_inT (List.mem_of_getElem? (i := 243) (by decide +kernel)) rfl)
theorem m_Document_init : zw_y Y_Document_init 2 := ⟨(zw_inT (List.mem_of_getElem? (i := 258) (by decide +kernel)) rfl), (zw_inT (List.mem_of_getElem? (i := 28) (by decide +kernel)) rfl), by decide +kernel, ⟨by decide +kernel, by decide +kernel⟩, by decide +kernel⟩
theorem i_Document_init : Y_Document_init.1.name = "<init>" ∧ Cond.instanceMethod Y_Document_init.1 ∈ zw_T := ⟨rfl, (zw_inT (List.mem_of_getElem? (i := 257) (by decide +kernel)) rfl)⟩
theorem m_WE_change : zw_y Y_WE_change 3 := ⟨(zw_inT (List.mem_of_getElem? (i := 273) (by decide +kernel)) rfl), (zw_inT (List.mem_of_getElem? (i := 19) (by decide +kernel)) rfl), by decide +kernel, ⟨by decide +kernel, by decide +kernel⟩, by decide +kernel⟩
theorem v_WE_change : Cond.instanceMethod Y_WE_change.1 ∈ zw_T ∧ Cond.selects Y_WE_change.1.cls Y_WE_change.1 Y_WE_change.1 ∈ zw_T := ⟨(zw_inT (List.mem_of_getElem? (i := 272) (by decide +kernel)) rfl), (zw_inT (by decide +kernel) rfl)⟩
theorem m_Log_write : zw_y Y_Log_write 3 := ⟨(zw_inT (List.mem_of_getElem? (i := 277) (by decide +kernel)) rfl), (zw_inT (List.mem_of_getElem? (i := 22) (by decide +kernel)) rfl), by decide +kernel, ⟨by decide +kernel, by decide +kernel⟩, by decide +kernel⟩
theorem v_Log_write : Cond.instanceMethod Y_Log_write.1 ∈ zw_T ∧ Cond.selects Y_Log_write.1.cls Y_Log_write.1 Y_Log_write.1 ∈ zw_T := ⟨(zw_inT (List.mem_of_getElem? (i := 275) (by decide +kernel)) rfl), (zw_inT (List.mem_of_getElem? (i := 276) (by decide +kernel)) rfl)⟩
theorem m_Shelf_put : zw_y Y_Shelf_put 2 := ⟨(zw_inT (List.mem_of_getElem? (i := 281) (by decide +kernel)) rfl), (zw_inT (List.mem_of_getElem? (i := 21) (by decide +kernel)) rfl), by decide +kernel, ⟨by decide +kernel, by decide +kernel⟩, by decide +kernel⟩
theorem v_Shelf_put : Cond.instanceMethod Y_Shelf_put.1 ∈ zw_T ∧ Cond.selects Y_Shelf_put.1.cls Y_Shelf_put.1 Y_Shelf_put.1 ∈ zw_T := ⟨(zw_inT (List.mem_of_getElem? (i := 279) (by decide +kernel)) rfl), (zw_inT (List.mem_of_getElem? (i := 280) (by decide +kernel)) rfl)⟩
theorem m_WE_untrain : zw_y Y_WE_untrain 1 := ⟨(zw_inT (List.mem_of_getElem? (i := 285) (by decide +kernel)) rfl), (zw_inT (List.mem_of_getElem? (i := 19) (by decide +kernel)) rfl), by decide +kernel, ⟨by decide +kernel, by decide +kernel⟩, by decide +kernel⟩
theorem v_WE_untrain : Cond.instanceMethod Y_WE_untrain.1 ∈ zw_T ∧ Cond.selects Y_WE_untrain.1.cls Y_WE_untrain.1 Y_WE_untrain.1 ∈ zw_T := ⟨(zw_inT (List.mem_of_getElem? (i := 283) (by decide +kernel)) rfl), (zw_inT (List.mem_of_getElem? (i := 284) (by decide +kernel)) rfl)⟩
theorem m_WE_sync : zw_y Y_WE_sync 0 := ⟨(zw_inT (List.mem_of_getElem? (i := 289) (by decide +kernel)) rfl), (zw_inT (List.mem_of_getElem? (i := 19) (by decide +kernel)) rfl), by decide +kernel, ⟨by decide +kernel, by decide +kernel⟩, by decide +kernel⟩
theorem v_WE_sync : Cond.instanceMethod Y_WE_sync.1 ∈ zw_T ∧ Cond.selects Y_WE_sync.1.cls Y_WE_sync.1 Y_WE_sync.1 ∈ zw_T := ⟨(zw_inT (List.mem_of_getElem? (i := 287) (by decide +kernel)) rfl), (zw_inT (List.mem_of_getElem? (i := 288) (by decide +kernel)) rfl)⟩
theorem m_Shelf_copyFrom : zw_y Y_Shelf_copyFrom 1 := ⟨(zw_inT (List.mem_of_getElem? (i := 293) (by decide +kernel)) rfl), (zw_inT (List.mem_of_getElem? (i := 21) (by decide +kernel)) rfl), by decide +kernel, ⟨by decide +kernel, by decide +kernel⟩, by decide +kernel⟩
theorem v_Shelf_copyFrom : Cond.instanceMethod Y_Shelf_copyFrom.1 ∈ zw_T ∧ Cond.selects Y_Shelf_copyFrom.1.cls Y_Shelf_copyFrom.1 Y_Shelf_copyFrom.1 ∈ zw_T := ⟨(zw_inT (List.mem_of_getElem? (i := 291) (by decide +kernel)) rfl), (zw_inT (List.mem_of_getElem? (i := 292) (by decide +kernel)) rfl)⟩
theorem m_Log_empty : zw_y Y_Log_empty 0 := ⟨(zw_inT (List.mem_of_getElem? (i := 297) (by decide +kernel)) rfl), (zw_inT (List.mem_of_getElem? (i := 22) (by decide +kernel)) rfl), by decide +kernel, ⟨by decide +kernel, by decide +kernel⟩, by decide +kernel⟩
theorem v_Log_empty : Cond.instanceMethod Y_Log_empty.1 ∈ zw_T ∧ Cond.selects Y_Log_empty.1.cls Y_Log_empty.1 Y_Log_empty.1 ∈ zw_T := ⟨(zw_inT (List.mem_of_getElem? (i := 295) (by decide +kernel)) rfl), (zw_inT (List.mem_of_getElem? (i := 296) (by decide +kernel)) rfl)⟩
theorem m_WE_fail : zw_y Y_WE_fail 1 := ⟨(zw_inT (List.mem_of_getElem? (i := 301) (by decide +kernel)) rfl), (zw_inT (List.mem_of_getElem? (i := 19) (by decide +kernel)) rfl), by decide +kernel, ⟨by decide +kernel, by decide +kernel⟩, by decide +kernel⟩
theorem v_WE_fail : Cond.instanceMethod Y_WE_fail.1 ∈ zw_T ∧ Cond.selects Y_WE_fail.1.cls Y_WE_fail.1 Y_WE_fail.1 ∈ zw_T := ⟨(zw_inT (List.mem_of_getElem? (i := 299) (by decide +kernel)) rfl), (zw_inT (List.mem_of_getElem? (i := 300) (by decide +kernel)) rfl)⟩
theorem m_Log_replayOn : zw_y Y_Log_replayOn 2 := ⟨(zw_inT (List.mem_of_getElem? (i := 305) (by decide +kernel)) rfl), (zw_inT (List.mem_of_getElem? (i := 22) (by decide +kernel)) rfl), by decide +kernel, ⟨by decide +kernel, by decide +kernel⟩, by decide +kernel⟩
theorem v_Log_replayOn : Cond.instanceMethod Y_Log_replayOn.1 ∈ zw_T ∧ Cond.selects Y_Log_replayOn.1.cls Y_Log_replayOn.1 Y_Log_replayOn.1 ∈ zw_T := ⟨(zw_inT (List.mem_of_getElem? (i := 303) (by decide +kernel)) rfl), (zw_inT (List.mem_of_getElem? (i := 304) (by decide +kernel)) rfl)⟩
theorem m_WE_pending : zw_y Y_WE_pending 0 := ⟨(zw_inT (List.mem_of_getElem? (i := 310) (by decide +kernel)) rfl), (zw_inT (List.mem_of_getElem? (i := 19) (by decide +kernel)) rfl), by decide +kernel, ⟨by decide +kernel, by decide +kernel⟩, by decide +kernel⟩
theorem v_WE_pending : Cond.instanceMethod Y_WE_pending.1 ∈ zw_T ∧ Cond.selects Y_WE_pending.1.cls Y_WE_pending.1 Y_WE_pending.1 ∈ zw_T := ⟨(zw_inT (List.mem_of_getElem? (i := 308) (by decide +kernel)) rfl), (zw_inT (List.mem_of_getElem? (i := 309) (by decide +kernel)) rfl)⟩
theorem m_WE_documents : zw_y Y_WE_documents 1 := ⟨(zw_inT (List.mem_of_getElem? (i := 314) (by decide +kernel)) rfl), (zw_inT (List.mem_of_getElem? (i := 19) (by decide +kernel)) rfl), by decide +kernel, ⟨by decide +kernel, by decide +kernel⟩, by decide +kernel⟩
theorem v_WE_documents : Cond.instanceMethod Y_WE_documents.1 ∈ zw_T ∧ Cond.selects Y_WE_documents.1.cls Y_WE_documents.1 Y_WE_documents.1 ∈ zw_T := ⟨(zw_inT (List.mem_of_getElem? (i := 312) (by decide +kernel)) rfl), (zw_inT (List.mem_of_getElem? (i := 313) (by decide +kernel)) rfl)⟩
theorem m_Shelf_documentsOf : zw_y Y_Shelf_documentsOf 1 := ⟨(zw_inT (List.mem_of_getElem? (i := 318) (by decide +kernel)) rfl), (zw_inT (List.mem_of_getElem? (i := 21) (by decide +kernel)) rfl), by decide +kernel, ⟨by decide +kernel, by decide +kernel⟩, by decide +kernel⟩
theorem v_Shelf_documentsOf : Cond.instanceMethod Y_Shelf_documentsOf.1 ∈ zw_T ∧ Cond.selects Y_Shelf_documentsOf.1.cls Y_Shelf_documentsOf.1 Y_Shelf_documentsOf.1 ∈ zw_T := ⟨(zw_inT (List.mem_of_getElem? (i := 316) (by decide +kernel)) rfl), (zw_inT (List.mem_of_getElem? (i := 317) (by decide +kernel)) rfl)⟩
theorem m_WE_total : zw_y Y_WE_total 1 := ⟨(zw_inT (List.mem_of_getElem? (i := 322) (by decide +kernel)) rfl), (zw_inT (List.mem_of_getElem? (i := 19) (by decide +kernel)) rfl), by decide +kernel, ⟨by decide +kernel, by decide +kernel⟩, by decide +kernel⟩
theorem v_WE_total : Cond.instanceMethod Y_WE_total.1 ∈ zw_T ∧ Cond.selects Y_WE_total.1.cls Y_WE_total.1 Y_WE_total.1 ∈ zw_T := ⟨(zw_inT (List.mem_of_getElem? (i := 320) (by decide +kernel)) rfl), (zw_inT (List.mem_of_getElem? (i := 321) (by decide +kernel)) rfl)⟩
theorem m_Shelf_wordsOf : zw_y Y_Shelf_wordsOf 1 := ⟨(zw_inT (List.mem_of_getElem? (i := 326) (by decide +kernel)) rfl), (zw_inT (List.mem_of_getElem? (i := 21) (by decide +kernel)) rfl), by decide +kernel, ⟨by decide +kernel, by decide +kernel⟩, by decide +kernel⟩
theorem v_Shelf_wordsOf : Cond.instanceMethod Y_Shelf_wordsOf.1 ∈ zw_T ∧ Cond.selects Y_Shelf_wordsOf.1.cls Y_Shelf_wordsOf.1 Y_Shelf_wordsOf.1 ∈ zw_T := ⟨(zw_inT (List.mem_of_getElem? (i := 324) (by decide +kernel)) rfl), (zw_inT (List.mem_of_getElem? (i := 325) (by decide +kernel)) rfl)⟩
theorem m_WE_count : zw_y Y_WE_count 2 := ⟨(zw_inT (List.mem_of_getElem? (i := 330) (by decide +kernel)) rfl), (zw_inT (List.mem_of_getElem? (i := 19) (by decide +kernel)) rfl), by decide +kernel, ⟨by decide +kernel, by decide +kernel⟩, by decide +kernel⟩
theorem v_WE_count : Cond.instanceMethod Y_WE_count.1 ∈ zw_T ∧ Cond.selects Y_WE_count.1.cls Y_WE_count.1 Y_WE_count.1 ∈ zw_T := ⟨(zw_inT (List.mem_of_getElem? (i := 328) (by decide +kernel)) rfl), (zw_inT (List.mem_of_getElem? (i := 329) (by decide +kernel)) rfl)⟩
theorem m_Shelf_timesOf : zw_y Y_Shelf_timesOf 2 := ⟨(zw_inT (List.mem_of_getElem? (i := 334) (by decide +kernel)) rfl), (zw_inT (List.mem_of_getElem? (i := 21) (by decide +kernel)) rfl), by decide +kernel, ⟨by decide +kernel, by decide +kernel⟩, by decide +kernel⟩
theorem v_Shelf_timesOf : Cond.instanceMethod Y_Shelf_timesOf.1 ∈ zw_T ∧ Cond.selects Y_Shelf_timesOf.1.cls Y_Shelf_timesOf.1 Y_Shelf_timesOf.1 ∈ zw_T := ⟨(zw_inT (List.mem_of_getElem? (i := 332) (by decide +kernel)) rfl), (zw_inT (List.mem_of_getElem? (i := 333) (by decide +kernel)) rfl)⟩
theorem m_Document_timesOf : zw_y Y_Document_timesOf 1 := ⟨(zw_inT (List.mem_of_getElem? (i := 338) (by decide +kernel)) rfl), (zw_inT (List.mem_of_getElem? (i := 28) (by decide +kernel)) rfl), by decide +kernel, ⟨by decide +kernel, by decide +kernel⟩, by decide +kernel⟩
theorem v_Document_timesOf : Cond.instanceMethod Y_Document_timesOf.1 ∈ zw_T ∧ Cond.selects Y_Document_timesOf.1.cls Y_Document_timesOf.1 Y_Document_timesOf.1 ∈ zw_T := ⟨(zw_inT (List.mem_of_getElem? (i := 336) (by decide +kernel)) rfl), (zw_inT (List.mem_of_getElem? (i := 337) (by decide +kernel)) rfl)⟩
theorem m_WE_vocabulary : zw_y Y_WE_vocabulary 0 := ⟨(zw_inT (List.mem_of_getElem? (i := 342) (by decide +kernel)) rfl), (zw_inT (List.mem_of_getElem? (i := 19) (by decide +kernel)) rfl), by decide +kernel, ⟨by decide +kernel, by decide +kernel⟩, by decide +kernel⟩
theorem v_WE_vocabulary : Cond.instanceMethod Y_WE_vocabulary.1 ∈ zw_T ∧ Cond.selects Y_WE_vocabulary.1.cls Y_WE_vocabulary.1 Y_WE_vocabulary.1 ∈ zw_T := ⟨(zw_inT (List.mem_of_getElem? (i := 340) (by decide +kernel)) rfl), (zw_inT (List.mem_of_getElem? (i := 341) (by decide +kernel)) rfl)⟩
theorem m_Shelf_differentWords : zw_y Y_Shelf_differentWords 0 := ⟨(zw_inT (List.mem_of_getElem? (i := 346) (by decide +kernel)) rfl), (zw_inT (List.mem_of_getElem? (i := 21) (by decide +kernel)) rfl), by decide +kernel, ⟨by decide +kernel, by decide +kernel⟩, by decide +kernel⟩
theorem v_Shelf_differentWords : Cond.instanceMethod Y_Shelf_differentWords.1 ∈ zw_T ∧ Cond.selects Y_Shelf_differentWords.1.cls Y_Shelf_differentWords.1 Y_Shelf_differentWords.1 ∈ zw_T := ⟨(zw_inT (List.mem_of_getElem? (i := 344) (by decide +kernel)) rfl), (zw_inT (List.mem_of_getElem? (i := 345) (by decide +kernel)) rfl)⟩
theorem m_Shelf_noteNewWords : zw_y Y_Shelf_noteNewWords 2 := ⟨(zw_inT (List.mem_of_getElem? (i := 350) (by decide +kernel)) rfl), (zw_inT (List.mem_of_getElem? (i := 21) (by decide +kernel)) rfl), by decide +kernel, ⟨by decide +kernel, by decide +kernel⟩, by decide +kernel⟩
theorem v_Shelf_noteNewWords : Cond.instanceMethod Y_Shelf_noteNewWords.1 ∈ zw_T ∧ Cond.selects Y_Shelf_noteNewWords.1.cls Y_Shelf_noteNewWords.1 Y_Shelf_noteNewWords.1 ∈ zw_T := ⟨(zw_inT (List.mem_of_getElem? (i := 349) (by decide +kernel)) rfl), (zw_inT (by decide +kernel) rfl)⟩
theorem m_Shelf_isSeen : zw_y Y_Shelf_isSeen 2 := ⟨(zw_inT (List.mem_of_getElem? (i := 354) (by decide +kernel)) rfl), (zw_inT (List.mem_of_getElem? (i := 21) (by decide +kernel)) rfl), by decide +kernel, ⟨by decide +kernel, by decide +kernel⟩, by decide +kernel⟩
theorem v_Shelf_isSeen : Cond.instanceMethod Y_Shelf_isSeen.1 ∈ zw_T ∧ Cond.selects Y_Shelf_isSeen.1.cls Y_Shelf_isSeen.1 Y_Shelf_isSeen.1 ∈ zw_T := ⟨(zw_inT (List.mem_of_getElem? (i := 353) (by decide +kernel)) rfl), (zw_inT (by decide +kernel) rfl)⟩
theorem m_WE_label : zw_y Y_WE_label 1 := ⟨(zw_inT (List.mem_of_getElem? (i := 358) (by decide +kernel)) rfl), (zw_inT (List.mem_of_getElem? (i := 19) (by decide +kernel)) rfl), by decide +kernel, ⟨by decide +kernel, by decide +kernel⟩, by decide +kernel⟩
theorem v_WE_label : Cond.instanceMethod Y_WE_label.1 ∈ zw_T ∧ Cond.selects Y_WE_label.1.cls Y_WE_label.1 Y_WE_label.1 ∈ zw_T := ⟨(zw_inT (List.mem_of_getElem? (i := 356) (by decide +kernel)) rfl), (zw_inT (List.mem_of_getElem? (i := 357) (by decide +kernel)) rfl)⟩
theorem m_WE_classify : zw_y Y_WE_classify 0 := ⟨(zw_inT (List.mem_of_getElem? (i := 362) (by decide +kernel)) rfl), (zw_inT (List.mem_of_getElem? (i := 19) (by decide +kernel)) rfl), by decide +kernel, ⟨by decide +kernel, by decide +kernel⟩, by decide +kernel⟩
theorem v_WE_classify : Cond.instanceMethod Y_WE_classify.1 ∈ zw_T ∧ Cond.selects Y_WE_classify.1.cls Y_WE_classify.1 Y_WE_classify.1 ∈ zw_T := ⟨(zw_inT (List.mem_of_getElem? (i := 360) (by decide +kernel)) rfl), (zw_inT (List.mem_of_getElem? (i := 361) (by decide +kernel)) rfl)⟩
theorem m_WE_order : zw_y Y_WE_order 1 := ⟨(zw_inT (List.mem_of_getElem? (i := 366) (by decide +kernel)) rfl), (zw_inT (List.mem_of_getElem? (i := 19) (by decide +kernel)) rfl), by decide +kernel, ⟨by decide +kernel, by decide +kernel⟩, by decide +kernel⟩
theorem v_WE_order : Cond.instanceMethod Y_WE_order.1 ∈ zw_T ∧ Cond.selects Y_WE_order.1.cls Y_WE_order.1 Y_WE_order.1 ∈ zw_T := ⟨(zw_inT (List.mem_of_getElem? (i := 364) (by decide +kernel)) rfl), (zw_inT (List.mem_of_getElem? (i := 365) (by decide +kernel)) rfl)⟩
theorem m_Chances_weigh : zw_y Y_Chances_weigh 3 := ⟨(zw_inT (List.mem_of_getElem? (i := 370) (by decide +kernel)) rfl), (zw_inT (List.mem_of_getElem? (i := 23) (by decide +kernel)) rfl), by decide +kernel, ⟨by decide +kernel, by decide +kernel⟩, by decide +kernel⟩
theorem v_Chances_weigh : Cond.instanceMethod Y_Chances_weigh.1 ∈ zw_T ∧ Cond.selects Y_Chances_weigh.1.cls Y_Chances_weigh.1 Y_Chances_weigh.1 ∈ zw_T := ⟨(zw_inT (List.mem_of_getElem? (i := 368) (by decide +kernel)) rfl), (zw_inT (List.mem_of_getElem? (i := 369) (by decide +kernel)) rfl)⟩
theorem m_Chances_classAt : zw_y Y_Chances_classAt 1 := ⟨(zw_inT (List.mem_of_getElem? (i := 378) (by decide +kernel)) rfl), (zw_inT (List.mem_of_getElem? (i := 23) (by decide +kernel)) rfl), by decide +kernel, ⟨by decide +kernel, by decide +kernel⟩, by decide +kernel⟩
theorem v_Chances_classAt : Cond.instanceMethod Y_Chances_classAt.1 ∈ zw_T ∧ Cond.selects Y_Chances_classAt.1.cls Y_Chances_classAt.1 Y_Chances_classAt.1 ∈ zw_T := ⟨(zw_inT (List.mem_of_getElem? (i := 376) (by decide +kernel)) rfl), (zw_inT (List.mem_of_getElem? (i := 377) (by decide +kernel)) rfl)⟩
theorem m_Chances_placeOf : zw_y Y_Chances_placeOf 1 := ⟨(zw_inT (List.mem_of_getElem? (i := 382) (by decide +kernel)) rfl), (zw_inT (List.mem_of_getElem? (i := 23) (by decide +kernel)) rfl), by decide +kernel, ⟨by decide +kernel, by decide +kernel⟩, by decide +kernel⟩
theorem v_Chances_placeOf : Cond.instanceMethod Y_Chances_placeOf.1 ∈ zw_T ∧ Cond.selects Y_Chances_placeOf.1.cls Y_Chances_placeOf.1 Y_Chances_placeOf.1 ∈ zw_T := ⟨(zw_inT (List.mem_of_getElem? (i := 381) (by decide +kernel)) rfl), (zw_inT (by decide +kernel) rfl)⟩
theorem m_Chances_signOf : zw_y Y_Chances_signOf 2 := ⟨(zw_inT (List.mem_of_getElem? (i := 386) (by decide +kernel)) rfl), (zw_inT (List.mem_of_getElem? (i := 23) (by decide +kernel)) rfl), by decide +kernel, ⟨by decide +kernel, by decide +kernel⟩, by decide +kernel⟩
theorem v_Chances_signOf : Cond.instanceMethod Y_Chances_signOf.1 ∈ zw_T ∧ Cond.selects Y_Chances_signOf.1.cls Y_Chances_signOf.1 Y_Chances_signOf.1 ∈ zw_T := ⟨(zw_inT (List.mem_of_getElem? (i := 384) (by decide +kernel)) rfl), (zw_inT (List.mem_of_getElem? (i := 385) (by decide +kernel)) rfl)⟩
theorem m_Chances_multiplyOut : zw_y Y_Chances_multiplyOut 3 := ⟨(zw_inT (List.mem_of_getElem? (i := 390) (by decide +kernel)) rfl), (zw_inT (List.mem_of_getElem? (i := 23) (by decide +kernel)) rfl), by decide +kernel, ⟨by decide +kernel, by decide +kernel⟩, by decide +kernel⟩
theorem v_Chances_multiplyOut : Cond.instanceMethod Y_Chances_multiplyOut.1 ∈ zw_T ∧ Cond.selects Y_Chances_multiplyOut.1.cls Y_Chances_multiplyOut.1 Y_Chances_multiplyOut.1 ∈ zw_T := ⟨(zw_inT (List.mem_of_getElem? (i := 389) (by decide +kernel)) rfl), (zw_inT (by decide +kernel) rfl)⟩
theorem m_Product_start : zw_y Y_Product_start 1 := ⟨(zw_inT (List.mem_of_getElem? (i := 394) (by decide +kernel)) rfl), (zw_inT (List.mem_of_getElem? (i := 24) (by decide +kernel)) rfl), by decide +kernel, ⟨by decide +kernel, by decide +kernel⟩, by decide +kernel⟩
theorem v_Product_start : Cond.instanceMethod Y_Product_start.1 ∈ zw_T ∧ Cond.selects Y_Product_start.1.cls Y_Product_start.1 Y_Product_start.1 ∈ zw_T := ⟨(zw_inT (List.mem_of_getElem? (i := 392) (by decide +kernel)) rfl), (zw_inT (List.mem_of_getElem? (i := 393) (by decide +kernel)) rfl)⟩
theorem m_Arrays_fill : zw_y Y_Arrays_fill 2 := ⟨(zw_inT (List.mem_of_getElem? (i := 397) (by decide +kernel)) rfl), (zw_inT (List.mem_of_getElem? (i := 29) (by decide +kernel)) rfl), by decide +kernel, ⟨by decide +kernel, by decide +kernel⟩, by decide +kernel⟩
theorem s_Arrays_fill : Cond.static Y_Arrays_fill.1 ∈ zw_T := (zw_inT (List.mem_of_getElem? (i := 396) (by decide +kernel)) rfl)
theorem m_Product_times : zw_y Y_Product_times 1 := ⟨(zw_inT (List.mem_of_getElem? (i := 401) (by decide +kernel)) rfl), (zw_inT (List.mem_of_getElem? (i := 24) (by decide +kernel)) rfl), by decide +kernel, ⟨by decide +kernel, by decide +kernel⟩, by decide +kernel⟩
theorem v_Product_times : Cond.instanceMethod Y_Product_times.1 ∈ zw_T ∧ Cond.selects Y_Product_times.1.cls Y_Product_times.1 Y_Product_times.1 ∈ zw_T := ⟨(zw_inT (List.mem_of_getElem? (i := 399) (by decide +kernel)) rfl), (zw_inT (List.mem_of_getElem? (i := 400) (by decide +kernel)) rfl)⟩
theorem m_Product_signAgainst : zw_y Y_Product_signAgainst 1 := ⟨(zw_inT (List.mem_of_getElem? (i := 406) (by decide +kernel)) rfl), (zw_inT (List.mem_of_getElem? (i := 24) (by decide +kernel)) rfl), by decide +kernel, ⟨by decide +kernel, by decide +kernel⟩, by decide +kernel⟩
theorem v_Product_signAgainst : Cond.instanceMethod Y_Product_signAgainst.1 ∈ zw_T ∧ Cond.selects Y_Product_signAgainst.1.cls Y_Product_signAgainst.1 Y_Product_signAgainst.1 ∈ zw_T := ⟨(zw_inT (List.mem_of_getElem? (i := 404) (by decide +kernel)) rfl), (zw_inT (List.mem_of_getElem? (i := 405) (by decide +kernel)) rfl)⟩
theorem m_WE_compare : zw_y Y_WE_compare 2 := ⟨(zw_inT (List.mem_of_getElem? (i := 411) (by decide +kernel)) rfl), (zw_inT (List.mem_of_getElem? (i := 19) (by decide +kernel)) rfl), by decide +kernel, ⟨by decide +kernel, by decide +kernel⟩, by decide +kernel⟩
theorem v_WE_compare : Cond.instanceMethod Y_WE_compare.1 ∈ zw_T ∧ Cond.selects Y_WE_compare.1.cls Y_WE_compare.1 Y_WE_compare.1 ∈ zw_T := ⟨(zw_inT (List.mem_of_getElem? (i := 409) (by decide +kernel)) rfl), (zw_inT (List.mem_of_getElem? (i := 410) (by decide +kernel)) rfl)⟩
theorem m_Law_cell : zw_y Y_Law_cell 2 := ⟨(zw_inT (List.mem_of_getElem? (i := 415) (by decide +kernel)) rfl), (zw_inT (List.mem_of_getElem? (i := 18) (by decide +kernel)) rfl), by decide +kernel, ⟨by decide +kernel, by decide +kernel⟩, by decide +kernel⟩
theorem s_Law_cell : Cond.static Y_Law_cell.1 ∈ zw_T := (zw_inT (List.mem_of_getElem? (i := 414) (by decide +kernel)) rfl)
theorem m_Mo_init : zw_y Y_Mo_init 1 := ⟨(zw_inT (List.mem_of_getElem? (i := 420) (by decide +kernel)) rfl), (zw_inT (List.mem_of_getElem? (i := 26) (by decide +kernel)) rfl), by decide +kernel, ⟨by decide +kernel, by decide +kernel⟩, by decide +kernel⟩
theorem i_Mo_init : Y_Mo_init.1.name = "<init>" ∧ Cond.instanceMethod Y_Mo_init.1 ∈ zw_T := ⟨rfl, (zw_inT (List.mem_of_getElem? (i := 419) (by decide +kernel)) rfl)⟩
theorem m_Mo_key : zw_y Y_Mo_key 1 := ⟨(zw_inT (List.mem_of_getElem? (i := 477) (by decide +kernel)) rfl), (zw_inT (List.mem_of_getElem? (i := 26) (by decide +kernel)) rfl), by decide +kernel, ⟨by decide +kernel, by decide +kernel⟩, by decide +kernel⟩
theorem v_Mo_key : Cond.instanceMethod Y_Mo_key.1 ∈ zw_T ∧ Cond.selects Y_Mo_key.1.cls Y_Mo_key.1 Y_Mo_key.1 ∈ zw_T := ⟨(zw_inT (List.mem_of_getElem? (i := 475) (by decide +kernel)) rfl), (zw_inT (List.mem_of_getElem? (i := 476) (by decide +kernel)) rfl)⟩
theorem m_Mo_clear : zw_y Y_Mo_clear 0 := ⟨(zw_inT (List.mem_of_getElem? (i := 481) (by decide +kernel)) rfl), (zw_inT (List.mem_of_getElem? (i := 26) (by decide +kernel)) rfl), by decide +kernel, ⟨by decide +kernel, by decide +kernel⟩, by decide +kernel⟩
theorem v_Mo_clear : Cond.instanceMethod Y_Mo_clear.1 ∈ zw_T ∧ Cond.selects Y_Mo_clear.1.cls Y_Mo_clear.1 Y_Mo_clear.1 ∈ zw_T := ⟨(zw_inT (List.mem_of_getElem? (i := 479) (by decide +kernel)) rfl), (zw_inT (List.mem_of_getElem? (i := 480) (by decide +kernel)) rfl)⟩
theorem m_Mo_words : zw_y Y_Mo_words 0 := ⟨(zw_inT (List.mem_of_getElem? (i := 485) (by decide +kernel)) rfl), (zw_inT (List.mem_of_getElem? (i := 26) (by decide +kernel)) rfl), by decide +kernel, ⟨by decide +kernel, by decide +kernel⟩, by decide +kernel⟩
theorem v_Mo_words : Cond.instanceMethod Y_Mo_words.1 ∈ zw_T ∧ Cond.selects Y_Mo_words.1.cls Y_Mo_words.1 Y_Mo_words.1 ∈ zw_T := ⟨(zw_inT (List.mem_of_getElem? (i := 483) (by decide +kernel)) rfl), (zw_inT (List.mem_of_getElem? (i := 484) (by decide +kernel)) rfl)⟩
theorem m_Mo_read : zw_y Y_Mo_read 0 := ⟨(zw_inT (List.mem_of_getElem? (i := 489) (by decide +kernel)) rfl), (zw_inT (List.mem_of_getElem? (i := 26) (by decide +kernel)) rfl), by decide +kernel, ⟨by decide +kernel, by decide +kernel⟩, by decide +kernel⟩
theorem v_Mo_read : Cond.instanceMethod Y_Mo_read.1 ∈ zw_T ∧ Cond.selects Y_Mo_read.1.cls Y_Mo_read.1 Y_Mo_read.1 ∈ zw_T := ⟨(zw_inT (List.mem_of_getElem? (i := 488) (by decide +kernel)) rfl), (zw_inT (by decide +kernel) rfl)⟩
theorem m_Mo_plain : zw_y Y_Mo_plain 1 := ⟨(zw_inT (List.mem_of_getElem? (i := 492) (by decide +kernel)) rfl), (zw_inT (List.mem_of_getElem? (i := 26) (by decide +kernel)) rfl), by decide +kernel, ⟨by decide +kernel, by decide +kernel⟩, by decide +kernel⟩
theorem s_Mo_plain : Cond.static Y_Mo_plain.1 ∈ zw_T := (zw_inT (List.mem_of_getElem? (i := 491) (by decide +kernel)) rfl)
theorem m_Mo_letter : zw_y Y_Mo_letter 2 := ⟨(zw_inT (List.mem_of_getElem? (i := 497) (by decide +kernel)) rfl), (zw_inT (List.mem_of_getElem? (i := 26) (by decide +kernel)) rfl), by decide +kernel, ⟨by decide +kernel, by decide +kernel⟩, by decide +kernel⟩
theorem v_Mo_letter : Cond.instanceMethod Y_Mo_letter.1 ∈ zw_T ∧ Cond.selects Y_Mo_letter.1.cls Y_Mo_letter.1 Y_Mo_letter.1 ∈ zw_T := ⟨(zw_inT (List.mem_of_getElem? (i := 495) (by decide +kernel)) rfl), (zw_inT (List.mem_of_getElem? (i := 496) (by decide +kernel)) rfl)⟩
theorem m_Mo_pending : zw_y Y_Mo_pending 0 := ⟨(zw_inT (List.mem_of_getElem? (i := 501) (by decide +kernel)) rfl), (zw_inT (List.mem_of_getElem? (i := 26) (by decide +kernel)) rfl), by decide +kernel, ⟨by decide +kernel, by decide +kernel⟩, by decide +kernel⟩
theorem v_Mo_pending : Cond.instanceMethod Y_Mo_pending.1 ∈ zw_T ∧ Cond.selects Y_Mo_pending.1.cls Y_Mo_pending.1 Y_Mo_pending.1 ∈ zw_T := ⟨(zw_inT (List.mem_of_getElem? (i := 499) (by decide +kernel)) rfl), (zw_inT (List.mem_of_getElem? (i := 500) (by decide +kernel)) rfl)⟩
theorem m_Mo_train : zw_y Y_Mo_train 2 := ⟨(zw_inT (List.mem_of_getElem? (i := 505) (by decide +kernel)) rfl), (zw_inT (List.mem_of_getElem? (i := 26) (by decide +kernel)) rfl), by decide +kernel, ⟨by decide +kernel, by decide +kernel⟩, by decide +kernel⟩
theorem v_Mo_train : Cond.instanceMethod Y_Mo_train.1 ∈ zw_T ∧ Cond.selects Y_Mo_train.1.cls Y_Mo_train.1 Y_Mo_train.1 ∈ zw_T := ⟨(zw_inT (List.mem_of_getElem? (i := 503) (by decide +kernel)) rfl), (zw_inT (List.mem_of_getElem? (i := 504) (by decide +kernel)) rfl)⟩
theorem m_Mo_isId : zw_y Y_Mo_isId 1 := ⟨(zw_inT (List.mem_of_getElem? (i := 508) (by decide +kernel)) rfl), (zw_inT (List.mem_of_getElem? (i := 26) (by decide +kernel)) rfl), by decide +kernel, ⟨by decide +kernel, by decide +kernel⟩, by decide +kernel⟩
theorem s_Mo_isId : Cond.static Y_Mo_isId.1 ∈ zw_T := (zw_inT (List.mem_of_getElem? (i := 507) (by decide +kernel)) rfl)
theorem m_Mo_inForce : zw_y Y_Mo_inForce 0 := ⟨(zw_inT (List.mem_of_getElem? (i := 512) (by decide +kernel)) rfl), (zw_inT (List.mem_of_getElem? (i := 26) (by decide +kernel)) rfl), by decide +kernel, ⟨by decide +kernel, by decide +kernel⟩, by decide +kernel⟩
theorem v_Mo_inForce : Cond.instanceMethod Y_Mo_inForce.1 ∈ zw_T ∧ Cond.selects Y_Mo_inForce.1.cls Y_Mo_inForce.1 Y_Mo_inForce.1 ∈ zw_T := ⟨(zw_inT (List.mem_of_getElem? (i := 511) (by decide +kernel)) rfl), (zw_inT (by decide +kernel) rfl)⟩
theorem m_Mo_log : zw_y Y_Mo_log 4 := ⟨(zw_inT (List.mem_of_getElem? (i := 517) (by decide +kernel)) rfl), (zw_inT (List.mem_of_getElem? (i := 26) (by decide +kernel)) rfl), by decide +kernel, ⟨by decide +kernel, by decide +kernel⟩, by decide +kernel⟩
theorem v_Mo_log : Cond.instanceMethod Y_Mo_log.1 ∈ zw_T ∧ Cond.selects Y_Mo_log.1.cls Y_Mo_log.1 Y_Mo_log.1 ∈ zw_T := ⟨(zw_inT (List.mem_of_getElem? (i := 516) (by decide +kernel)) rfl), (zw_inT (by decide +kernel) rfl)⟩
theorem m_Mo_apply : zw_y Y_Mo_apply 1 := ⟨(zw_inT (List.mem_of_getElem? (i := 521) (by decide +kernel)) rfl), (zw_inT (List.mem_of_getElem? (i := 26) (by decide +kernel)) rfl), by decide +kernel, ⟨by decide +kernel, by decide +kernel⟩, by decide +kernel⟩
theorem v_Mo_apply : Cond.instanceMethod Y_Mo_apply.1 ∈ zw_T ∧ Cond.selects Y_Mo_apply.1.cls Y_Mo_apply.1 Y_Mo_apply.1 ∈ zw_T := ⟨(zw_inT (List.mem_of_getElem? (i := 520) (by decide +kernel)) rfl), (zw_inT (by decide +kernel) rfl)⟩
theorem m_Mo_untrain : zw_y Y_Mo_untrain 1 := ⟨(zw_inT (List.mem_of_getElem? (i := 525) (by decide +kernel)) rfl), (zw_inT (List.mem_of_getElem? (i := 26) (by decide +kernel)) rfl), by decide +kernel, ⟨by decide +kernel, by decide +kernel⟩, by decide +kernel⟩
theorem v_Mo_untrain : Cond.instanceMethod Y_Mo_untrain.1 ∈ zw_T ∧ Cond.selects Y_Mo_untrain.1.cls Y_Mo_untrain.1 Y_Mo_untrain.1 ∈ zw_T := ⟨(zw_inT (List.mem_of_getElem? (i := 523) (by decide +kernel)) rfl), (zw_inT (List.mem_of_getElem? (i := 524) (by decide +kernel)) rfl)⟩
theorem m_Mo_sync : zw_y Y_Mo_sync 0 := ⟨(zw_inT (List.mem_of_getElem? (i := 529) (by decide +kernel)) rfl), (zw_inT (List.mem_of_getElem? (i := 26) (by decide +kernel)) rfl), by decide +kernel, ⟨by decide +kernel, by decide +kernel⟩, by decide +kernel⟩
theorem v_Mo_sync : Cond.instanceMethod Y_Mo_sync.1 ∈ zw_T ∧ Cond.selects Y_Mo_sync.1.cls Y_Mo_sync.1 Y_Mo_sync.1 ∈ zw_T := ⟨(zw_inT (List.mem_of_getElem? (i := 527) (by decide +kernel)) rfl), (zw_inT (List.mem_of_getElem? (i := 528) (by decide +kernel)) rfl)⟩
theorem m_Mo_copy : zw_y Y_Mo_copy 2 := ⟨(zw_inT (List.mem_of_getElem? (i := 533) (by decide +kernel)) rfl), (zw_inT (List.mem_of_getElem? (i := 26) (by decide +kernel)) rfl), by decide +kernel, ⟨by decide +kernel, by decide +kernel⟩, by decide +kernel⟩
theorem v_Mo_copy : Cond.instanceMethod Y_Mo_copy.1 ∈ zw_T ∧ Cond.selects Y_Mo_copy.1.cls Y_Mo_copy.1 Y_Mo_copy.1 ∈ zw_T := ⟨(zw_inT (List.mem_of_getElem? (i := 532) (by decide +kernel)) rfl), (zw_inT (by decide +kernel) rfl)⟩
theorem m_Mo_fail : zw_y Y_Mo_fail 1 := ⟨(zw_inT (List.mem_of_getElem? (i := 537) (by decide +kernel)) rfl), (zw_inT (List.mem_of_getElem? (i := 26) (by decide +kernel)) rfl), by decide +kernel, ⟨by decide +kernel, by decide +kernel⟩, by decide +kernel⟩
theorem v_Mo_fail : Cond.instanceMethod Y_Mo_fail.1 ∈ zw_T ∧ Cond.selects Y_Mo_fail.1.cls Y_Mo_fail.1 Y_Mo_fail.1 ∈ zw_T := ⟨(zw_inT (List.mem_of_getElem? (i := 535) (by decide +kernel)) rfl), (zw_inT (List.mem_of_getElem? (i := 536) (by decide +kernel)) rfl)⟩
theorem m_Mo_documents : zw_y Y_Mo_documents 1 := ⟨(zw_inT (List.mem_of_getElem? (i := 541) (by decide +kernel)) rfl), (zw_inT (List.mem_of_getElem? (i := 26) (by decide +kernel)) rfl), by decide +kernel, ⟨by decide +kernel, by decide +kernel⟩, by decide +kernel⟩
theorem v_Mo_documents : Cond.instanceMethod Y_Mo_documents.1 ∈ zw_T ∧ Cond.selects Y_Mo_documents.1.cls Y_Mo_documents.1 Y_Mo_documents.1 ∈ zw_T := ⟨(zw_inT (List.mem_of_getElem? (i := 539) (by decide +kernel)) rfl), (zw_inT (List.mem_of_getElem? (i := 540) (by decide +kernel)) rfl)⟩
theorem m_Mo_total : zw_y Y_Mo_total 1 := ⟨(zw_inT (List.mem_of_getElem? (i := 545) (by decide +kernel)) rfl), (zw_inT (List.mem_of_getElem? (i := 26) (by decide +kernel)) rfl), by decide +kernel, ⟨by decide +kernel, by decide +kernel⟩, by decide +kernel⟩
theorem v_Mo_total : Cond.instanceMethod Y_Mo_total.1 ∈ zw_T ∧ Cond.selects Y_Mo_total.1.cls Y_Mo_total.1 Y_Mo_total.1 ∈ zw_T := ⟨(zw_inT (List.mem_of_getElem? (i := 543) (by decide +kernel)) rfl), (zw_inT (List.mem_of_getElem? (i := 544) (by decide +kernel)) rfl)⟩
theorem m_Mo_isClass : zw_y Y_Mo_isClass 1 := ⟨(zw_inT (List.mem_of_getElem? (i := 549) (by decide +kernel)) rfl), (zw_inT (List.mem_of_getElem? (i := 26) (by decide +kernel)) rfl), by decide +kernel, ⟨by decide +kernel, by decide +kernel⟩, by decide +kernel⟩
theorem v_Mo_isClass : Cond.instanceMethod Y_Mo_isClass.1 ∈ zw_T ∧ Cond.selects Y_Mo_isClass.1.cls Y_Mo_isClass.1 Y_Mo_isClass.1 ∈ zw_T := ⟨(zw_inT (List.mem_of_getElem? (i := 548) (by decide +kernel)) rfl), (zw_inT (by decide +kernel) rfl)⟩
theorem m_Mo_count : zw_y Y_Mo_count 2 := ⟨(zw_inT (List.mem_of_getElem? (i := 553) (by decide +kernel)) rfl), (zw_inT (List.mem_of_getElem? (i := 26) (by decide +kernel)) rfl), by decide +kernel, ⟨by decide +kernel, by decide +kernel⟩, by decide +kernel⟩
theorem v_Mo_count : Cond.instanceMethod Y_Mo_count.1 ∈ zw_T ∧ Cond.selects Y_Mo_count.1.cls Y_Mo_count.1 Y_Mo_count.1 ∈ zw_T := ⟨(zw_inT (List.mem_of_getElem? (i := 551) (by decide +kernel)) rfl), (zw_inT (List.mem_of_getElem? (i := 552) (by decide +kernel)) rfl)⟩
theorem m_Mo_howOften : zw_y Y_Mo_howOften 2 := ⟨(zw_inT (List.mem_of_getElem? (i := 557) (by decide +kernel)) rfl), (zw_inT (List.mem_of_getElem? (i := 26) (by decide +kernel)) rfl), by decide +kernel, ⟨by decide +kernel, by decide +kernel⟩, by decide +kernel⟩
theorem v_Mo_howOften : Cond.instanceMethod Y_Mo_howOften.1 ∈ zw_T ∧ Cond.selects Y_Mo_howOften.1.cls Y_Mo_howOften.1 Y_Mo_howOften.1 ∈ zw_T := ⟨(zw_inT (List.mem_of_getElem? (i := 556) (by decide +kernel)) rfl), (zw_inT (by decide +kernel) rfl)⟩
theorem m_Mo_vocabulary : zw_y Y_Mo_vocabulary 0 := ⟨(zw_inT (List.mem_of_getElem? (i := 561) (by decide +kernel)) rfl), (zw_inT (List.mem_of_getElem? (i := 26) (by decide +kernel)) rfl), by decide +kernel, ⟨by decide +kernel, by decide +kernel⟩, by decide +kernel⟩
theorem v_Mo_vocabulary : Cond.instanceMethod Y_Mo_vocabulary.1 ∈ zw_T ∧ Cond.selects Y_Mo_vocabulary.1.cls Y_Mo_vocabulary.1 Y_Mo_vocabulary.1 ∈ zw_T := ⟨(zw_inT (List.mem_of_getElem? (i := 559) (by decide +kernel)) rfl), (zw_inT (List.mem_of_getElem? (i := 560) (by decide +kernel)) rfl)⟩
theorem m_Mo_isNew : zw_y Y_Mo_isNew 2 := ⟨(zw_inT (List.mem_of_getElem? (i := 565) (by decide +kernel)) rfl), (zw_inT (List.mem_of_getElem? (i := 26) (by decide +kernel)) rfl), by decide +kernel, ⟨by decide +kernel, by decide +kernel⟩, by decide +kernel⟩
theorem v_Mo_isNew : Cond.instanceMethod Y_Mo_isNew.1 ∈ zw_T ∧ Cond.selects Y_Mo_isNew.1.cls Y_Mo_isNew.1 Y_Mo_isNew.1 ∈ zw_T := ⟨(zw_inT (List.mem_of_getElem? (i := 564) (by decide +kernel)) rfl), (zw_inT (by decide +kernel) rfl)⟩
theorem m_Mo_label : zw_y Y_Mo_label 1 := ⟨(zw_inT (List.mem_of_getElem? (i := 569) (by decide +kernel)) rfl), (zw_inT (List.mem_of_getElem? (i := 26) (by decide +kernel)) rfl), by decide +kernel, ⟨by decide +kernel, by decide +kernel⟩, by decide +kernel⟩
theorem v_Mo_label : Cond.instanceMethod Y_Mo_label.1 ∈ zw_T ∧ Cond.selects Y_Mo_label.1.cls Y_Mo_label.1 Y_Mo_label.1 ∈ zw_T := ⟨(zw_inT (List.mem_of_getElem? (i := 567) (by decide +kernel)) rfl), (zw_inT (List.mem_of_getElem? (i := 568) (by decide +kernel)) rfl)⟩
theorem m_Mo_compare : zw_y Y_Mo_compare 2 := ⟨(zw_inT (List.mem_of_getElem? (i := 573) (by decide +kernel)) rfl), (zw_inT (List.mem_of_getElem? (i := 26) (by decide +kernel)) rfl), by decide +kernel, ⟨by decide +kernel, by decide +kernel⟩, by decide +kernel⟩
theorem v_Mo_compare : Cond.instanceMethod Y_Mo_compare.1 ∈ zw_T ∧ Cond.selects Y_Mo_compare.1.cls Y_Mo_compare.1 Y_Mo_compare.1 ∈ zw_T := ⟨(zw_inT (List.mem_of_getElem? (i := 571) (by decide +kernel)) rfl), (zw_inT (List.mem_of_getElem? (i := 572) (by decide +kernel)) rfl)⟩
theorem m_Mo_against : zw_y Y_Mo_against 2 := ⟨(zw_inT (List.mem_of_getElem? (i := 577) (by decide +kernel)) rfl), (zw_inT (List.mem_of_getElem? (i := 26) (by decide +kernel)) rfl), by decide +kernel, ⟨by decide +kernel, by decide +kernel⟩, by decide +kernel⟩
theorem v_Mo_against : Cond.instanceMethod Y_Mo_against.1 ∈ zw_T ∧ Cond.selects Y_Mo_against.1.cls Y_Mo_against.1 Y_Mo_against.1 ∈ zw_T := ⟨(zw_inT (List.mem_of_getElem? (i := 576) (by decide +kernel)) rfl), (zw_inT (by decide +kernel) rfl)⟩
theorem m_Mo_times : zw_y Y_Mo_times 2 := ⟨(zw_inT (List.mem_of_getElem? (i := 584) (by decide +kernel)) rfl), (zw_inT (List.mem_of_getElem? (i := 26) (by decide +kernel)) rfl), by decide +kernel, ⟨by decide +kernel, by decide +kernel⟩, by decide +kernel⟩
theorem v_Mo_times : Cond.instanceMethod Y_Mo_times.1 ∈ zw_T ∧ Cond.selects Y_Mo_times.1.cls Y_Mo_times.1 Y_Mo_times.1 ∈ zw_T := ⟨(zw_inT (List.mem_of_getElem? (i := 583) (by decide +kernel)) rfl), (zw_inT (by decide +kernel) rfl)⟩
theorem m_Mo_order : zw_y Y_Mo_order 1 := ⟨(zw_inT (List.mem_of_getElem? (i := 588) (by decide +kernel)) rfl), (zw_inT (List.mem_of_getElem? (i := 26) (by decide +kernel)) rfl), by decide +kernel, ⟨by decide +kernel, by decide +kernel⟩, by decide +kernel⟩
theorem v_Mo_order : Cond.instanceMethod Y_Mo_order.1 ∈ zw_T ∧ Cond.selects Y_Mo_order.1.cls Y_Mo_order.1 Y_Mo_order.1 ∈ zw_T := ⟨(zw_inT (List.mem_of_getElem? (i := 586) (by decide +kernel)) rfl), (zw_inT (List.mem_of_getElem? (i := 587) (by decide +kernel)) rfl)⟩
theorem m_Mo_place : zw_y Y_Mo_place 1 := ⟨(zw_inT (List.mem_of_getElem? (i := 592) (by decide +kernel)) rfl), (zw_inT (List.mem_of_getElem? (i := 26) (by decide +kernel)) rfl), by decide +kernel, ⟨by decide +kernel, by decide +kernel⟩, by decide +kernel⟩
theorem v_Mo_place : Cond.instanceMethod Y_Mo_place.1 ∈ zw_T ∧ Cond.selects Y_Mo_place.1.cls Y_Mo_place.1 Y_Mo_place.1 ∈ zw_T := ⟨(zw_inT (List.mem_of_getElem? (i := 591) (by decide +kernel)) rfl), (zw_inT (by decide +kernel) rfl)⟩
theorem m_Mo_classify : zw_y Y_Mo_classify 0 := ⟨(zw_inT (List.mem_of_getElem? (i := 596) (by decide +kernel)) rfl), (zw_inT (List.mem_of_getElem? (i := 26) (by decide +kernel)) rfl), by decide +kernel, ⟨by decide +kernel, by decide +kernel⟩, by decide +kernel⟩
theorem v_Mo_classify : Cond.instanceMethod Y_Mo_classify.1 ∈ zw_T ∧ Cond.selects Y_Mo_classify.1.cls Y_Mo_classify.1 Y_Mo_classify.1 ∈ zw_T := ⟨(zw_inT (List.mem_of_getElem? (i := 594) (by decide +kernel)) rfl), (zw_inT (List.mem_of_getElem? (i := 595) (by decide +kernel)) rfl)⟩
theorem k_WE_9 : zw_lk "WordEvidence" 9 Y_Text_init.1 := Or.inr ⟨"WordEvidence", (zw_inT (List.mem_of_getElem? (i := 41) (by decide +kernel)) rfl)⟩
theorem k_WE_18 : zw_lk "WordEvidence" 18 Y_Shelf_init.1 := Or.inr ⟨"WordEvidence", (zw_inT (List.mem_of_getElem? (i := 65) (by decide +kernel)) rfl)⟩
theorem k_WE_28 : zw_lk "WordEvidence" 28 Y_Log_init.1 := Or.inr ⟨"WordEvidence", (zw_inT (List.mem_of_getElem? (i := 80) (by decide +kernel)) rfl)⟩
theorem k_WE_35 : zw_lk "WordEvidence" 35 Y_Chances_init.1 := Or.inr ⟨"WordEvidence", (zw_inT (List.mem_of_getElem? (i := 105) (by decide +kernel)) rfl)⟩
theorem k_WE_40 : zw_lk "WordEvidence" 40 Y_Math_min.1 := Or.inl (zw_inT (List.mem_of_getElem? (i := 143) (by decide +kernel)) rfl)
theorem k_WE_46 : zw_lk "WordEvidence" 46 Y_Math_max.1 := Or.inl (zw_inT (List.mem_of_getElem? (i := 146) (by decide +kernel)) rfl)
theorem k_WE_53 : zw_lk "WordEvidence" 53 Y_Text_append.1 := Or.inl (zw_inT (List.mem_of_getElem? (i := 172) (by decide +kernel)) rfl)
theorem k_WE_57 : zw_lk "WordEvidence" 57 Y_Text_empty.1 := Or.inl (zw_inT (List.mem_of_getElem? (i := 190) (by decide +kernel)) rfl)
theorem k_WE_64 : zw_lk "WordEvidence" 64 Y_Text_hasWord.1 := Or.inl (zw_inT (List.mem_of_getElem? (i := 202) (by decide +kernel)) rfl)
theorem k_WE_72 : zw_lk "WordEvidence" 72 Y_Letters_at.1 := Or.inl (zw_inT (List.mem_of_getElem? (i := 206) (by decide +kernel)) rfl)
theorem k_WE_78 : zw_lk "WordEvidence" 78 Y_WE_isId.1 := Or.inl (zw_inT (List.mem_of_getElem? (i := 213) (by decide +kernel)) rfl)
theorem k_WE_81 : zw_lk "WordEvidence" 81 Y_WE_isClass.1 := Or.inl (zw_inT (List.mem_of_getElem? (i := 216) (by decide +kernel)) rfl)
theorem k_WE_84 : zw_lk "WordEvidence" 84 Y_Shelf_find.1 := Or.inl (zw_inT (List.mem_of_getElem? (i := 220) (by decide +kernel)) rfl)
theorem k_WE_88 : zw_lk "WordEvidence" 88 Y_Shelf_size.1 := Or.inl (zw_inT (List.mem_of_getElem? (i := 225) (by decide +kernel)) rfl)
theorem k_WE_91 : zw_lk "WordEvidence" 91 Y_WE_blocksToTrain.1 := Or.inl (zw_inT (List.mem_of_getElem? (i := 229) (by decide +kernel)) rfl)
theorem k_WE_95 : zw_lk "WordEvidence" 95 Y_Log_hasRoomFor.1 := Or.inl (zw_inT (List.mem_of_getElem? (i := 232) (by decide +kernel)) rfl)
theorem k_WE_100 : zw_lk "WordEvidence" 100 Y_Text_copyOfWords.1 := Or.inl (zw_inT (List.mem_of_getElem? (i := 238) (by decide +kernel)) rfl)
theorem k_WE_104 : zw_lk "WordEvidence" 104 Y_Document_init.1 := Or.inl (zw_inT (List.mem_of_getElem? (i := 256) (by decide +kernel)) rfl)
theorem k_WE_107 : zw_lk "WordEvidence" 107 Y_WE_change.1 := Or.inl (zw_inT (List.mem_of_getElem? (i := 270) (by decide +kernel)) rfl)
theorem k_WE_114 : zw_lk "WordEvidence" 114 Y_Shelf_copyFrom.1 := Or.inl (zw_inT (List.mem_of_getElem? (i := 290) (by decide +kernel)) rfl)
theorem k_WE_118 : zw_lk "WordEvidence" 118 Y_Log_empty.1 := Or.inl (zw_inT (List.mem_of_getElem? (i := 294) (by decide +kernel)) rfl)
theorem k_WE_119 : zw_lk "WordEvidence" 119 Y_Log_replayOn.1 := Or.inl (zw_inT (List.mem_of_getElem? (i := 302) (by decide +kernel)) rfl)
theorem k_WE_126 : zw_lk "WordEvidence" 126 Y_Shelf_documentsOf.1 := Or.inl (zw_inT (List.mem_of_getElem? (i := 315) (by decide +kernel)) rfl)
theorem k_WE_129 : zw_lk "WordEvidence" 129 Y_Shelf_wordsOf.1 := Or.inl (zw_inT (List.mem_of_getElem? (i := 323) (by decide +kernel)) rfl)
theorem k_WE_132 : zw_lk "WordEvidence" 132 Y_Shelf_timesOf.1 := Or.inl (zw_inT (List.mem_of_getElem? (i := 331) (by decide +kernel)) rfl)
theorem k_WE_136 : zw_lk "WordEvidence" 136 Y_Shelf_differentWords.1 := Or.inl (zw_inT (List.mem_of_getElem? (i := 343) (by decide +kernel)) rfl)
theorem k_WE_139 : zw_lk "WordEvidence" 139 Y_WE_order.1 := Or.inl (zw_inT (List.mem_of_getElem? (i := 363) (by decide +kernel)) rfl)
theorem k_WE_142 : zw_lk "WordEvidence" 142 Y_Chances_weigh.1 := Or.inl (zw_inT (List.mem_of_getElem? (i := 367) (by decide +kernel)) rfl)
theorem k_WE_146 : zw_lk "WordEvidence" 146 Y_Chances_classAt.1 := Or.inl (zw_inT (List.mem_of_getElem? (i := 375) (by decide +kernel)) rfl)
theorem k_WE_149 : zw_lk "WordEvidence" 149 Y_Chances_signOf.1 := Or.inl (zw_inT (List.mem_of_getElem? (i := 412) (by decide +kernel)) rfl)
theorem k_WE_152 : zw_lk "WordEvidence" 152 Y_Log_write.1 := Or.inl (zw_inT (List.mem_of_getElem? (i := 274) (by decide +kernel)) rfl)
theorem k_WE_155 : zw_lk "WordEvidence" 155 Y_Shelf_put.1 := Or.inl (zw_inT (List.mem_of_getElem? (i := 278) (by decide +kernel)) rfl)
theorem k_Chances_25 : zw_lk "WordEvidence$Chances" 25 Y_Product_init.1 := Or.inr ⟨"WordEvidence", (zw_inT (List.mem_of_getElem? (i := 113) (by decide +kernel)) rfl)⟩
theorem k_Chances_43 : zw_lk "WordEvidence$Chances" 43 Y_Shelf_differentWords.1 := Or.inl (zw_inT (List.mem_of_getElem? (i := 371) (by decide +kernel)) rfl)
theorem k_Chances_49 : zw_lk "WordEvidence$Chances" 49 Y_Shelf_documentsOf.1 := Or.inl (zw_inT (List.mem_of_getElem? (i := 372) (by decide +kernel)) rfl)
theorem k_Chances_53 : zw_lk "WordEvidence$Chances" 53 Y_Shelf_wordsOf.1 := Or.inl (zw_inT (List.mem_of_getElem? (i := 373) (by decide +kernel)) rfl)
theorem k_Chances_60 : zw_lk "WordEvidence$Chances" 60 Y_Shelf_timesOf.1 := Or.inl (zw_inT (List.mem_of_getElem? (i := 374) (by decide +kernel)) rfl)
theorem k_Chances_64 : zw_lk "WordEvidence$Chances" 64 Y_Chances_placeOf.1 := Or.inl (zw_inT (List.mem_of_getElem? (i := 379) (by decide +kernel)) rfl)
theorem k_Chances_67 : zw_lk "WordEvidence$Chances" 67 Y_Chances_signOf.1 := Or.inl (zw_inT (List.mem_of_getElem? (i := 383) (by decide +kernel)) rfl)
theorem k_Chances_71 : zw_lk "WordEvidence$Chances" 71 Y_Chances_multiplyOut.1 := Or.inl (zw_inT (List.mem_of_getElem? (i := 387) (by decide +kernel)) rfl)
theorem k_Chances_75 : zw_lk "WordEvidence$Chances" 75 Y_Product_signAgainst.1 := Or.inl (zw_inT (List.mem_of_getElem? (i := 403) (by decide +kernel)) rfl)
theorem k_Chances_79 : zw_lk "WordEvidence$Chances" 79 Y_Product_start.1 := Or.inl (zw_inT (List.mem_of_getElem? (i := 391) (by decide +kernel)) rfl)
theorem k_Chances_83 : zw_lk "WordEvidence$Chances" 83 Y_Product_times.1 := Or.inl (zw_inT (List.mem_of_getElem? (i := 398) (by decide +kernel)) rfl)
theorem k_Log_31 : zw_lk "WordEvidence$Log" 31 Y_Shelf_put.1 := Or.inl (zw_inT (List.mem_of_getElem? (i := 306) (by decide +kernel)) rfl)
theorem k_Product_13 : zw_lk "WordEvidence$Product" 13 Y_Arrays_fill.1 := Or.inl (zw_inT (List.mem_of_getElem? (i := 395) (by decide +kernel)) rfl)
theorem k_Shelf_21 : zw_lk "WordEvidence$Shelf" 21 Y_WE_isId.1 := Or.inr ⟨"WordEvidence", (zw_inT (List.mem_of_getElem? (i := 224) (by decide +kernel)) rfl)⟩
theorem k_Shelf_32 : zw_lk "WordEvidence$Shelf" 32 Y_Document_timesOf.1 := Or.inl (zw_inT (List.mem_of_getElem? (i := 335) (by decide +kernel)) rfl)
theorem k_Shelf_36 : zw_lk "WordEvidence$Shelf" 36 Y_Shelf_noteNewWords.1 := Or.inl (zw_inT (List.mem_of_getElem? (i := 347) (by decide +kernel)) rfl)
theorem k_Shelf_40 : zw_lk "WordEvidence$Shelf" 40 Y_Shelf_isSeen.1 := Or.inl (zw_inT (List.mem_of_getElem? (i := 351) (by decide +kernel)) rfl)
theorem k_Text_25 : zw_lk "WordEvidence$Text" 25 Y_Letters_fold.1 := Or.inl (zw_inT (List.mem_of_getElem? (i := 176) (by decide +kernel)) rfl)
theorem k_Text_31 : zw_lk "WordEvidence$Text" 31 Y_Text_lengthenRun.1 := Or.inl (zw_inT (List.mem_of_getElem? (i := 179) (by decide +kernel)) rfl)
theorem k_Text_35 : zw_lk "WordEvidence$Text" 35 Y_Letters_with.1 := Or.inl (zw_inT (List.mem_of_getElem? (i := 183) (by decide +kernel)) rfl)
theorem k_Text_39 : zw_lk "WordEvidence$Text" 39 Y_Arrays_copyOf.1 := Or.inl (zw_inT (List.mem_of_getElem? (i := 242) (by decide +kernel)) rfl)
theorem k_Law_9 : zw_lk "WordEvidenceLaw" 9 Y_Law_cell.1 := Or.inl (zw_inT (List.mem_of_getElem? (i := 413) (by decide +kernel)) rfl)
theorem k_Law_15 : zw_lk "WordEvidenceLaw" 15 Y_WE_init.1 := Or.inl (zw_inT (List.mem_of_getElem? (i := 33) (by decide +kernel)) rfl)
theorem k_Law_20 : zw_lk "WordEvidenceLaw" 20 Y_Mo_init.1 := Or.inl (zw_inT (List.mem_of_getElem? (i := 418) (by decide +kernel)) rfl)
theorem k_Law_21 : zw_lk "WordEvidenceLaw" 21 Y_WE_key.1 := Or.inl (zw_inT (List.mem_of_getElem? (i := 168) (by decide +kernel)) rfl)
theorem k_Law_25 : zw_lk "WordEvidenceLaw" 25 Y_Mo_key.1 := Or.inl (zw_inT (List.mem_of_getElem? (i := 474) (by decide +kernel)) rfl)
theorem k_Law_26 : zw_lk "WordEvidenceLaw" 26 Y_WE_clear.1 := Or.inl (zw_inT (List.mem_of_getElem? (i := 186) (by decide +kernel)) rfl)
theorem k_Law_30 : zw_lk "WordEvidenceLaw" 30 Y_Mo_clear.1 := Or.inl (zw_inT (List.mem_of_getElem? (i := 478) (by decide +kernel)) rfl)
theorem k_Law_31 : zw_lk "WordEvidenceLaw" 31 Y_WE_words.1 := Or.inl (zw_inT (List.mem_of_getElem? (i := 194) (by decide +kernel)) rfl)
theorem k_Law_34 : zw_lk "WordEvidenceLaw" 34 Y_Mo_words.1 := Or.inl (zw_inT (List.mem_of_getElem? (i := 482) (by decide +kernel)) rfl)
theorem k_Law_35 : zw_lk "WordEvidenceLaw" 35 Y_WE_letter.1 := Or.inl (zw_inT (List.mem_of_getElem? (i := 198) (by decide +kernel)) rfl)
theorem k_Law_39 : zw_lk "WordEvidenceLaw" 39 Y_Mo_letter.1 := Or.inl (zw_inT (List.mem_of_getElem? (i := 494) (by decide +kernel)) rfl)
theorem k_Law_40 : zw_lk "WordEvidenceLaw" 40 Y_WE_train.1 := Or.inl (zw_inT (List.mem_of_getElem? (i := 209) (by decide +kernel)) rfl)
theorem k_Law_43 : zw_lk "WordEvidenceLaw" 43 Y_Mo_train.1 := Or.inl (zw_inT (List.mem_of_getElem? (i := 502) (by decide +kernel)) rfl)
theorem k_Law_44 : zw_lk "WordEvidenceLaw" 44 Y_WE_untrain.1 := Or.inl (zw_inT (List.mem_of_getElem? (i := 282) (by decide +kernel)) rfl)
theorem k_Law_48 : zw_lk "WordEvidenceLaw" 48 Y_Mo_untrain.1 := Or.inl (zw_inT (List.mem_of_getElem? (i := 522) (by decide +kernel)) rfl)
theorem k_Law_49 : zw_lk "WordEvidenceLaw" 49 Y_WE_sync.1 := Or.inl (zw_inT (List.mem_of_getElem? (i := 286) (by decide +kernel)) rfl)
theorem k_Law_52 : zw_lk "WordEvidenceLaw" 52 Y_Mo_sync.1 := Or.inl (zw_inT (List.mem_of_getElem? (i := 526) (by decide +kernel)) rfl)
theorem k_Law_53 : zw_lk "WordEvidenceLaw" 53 Y_WE_fail.1 := Or.inl (zw_inT (List.mem_of_getElem? (i := 298) (by decide +kernel)) rfl)
theorem k_Law_56 : zw_lk "WordEvidenceLaw" 56 Y_Mo_fail.1 := Or.inl (zw_inT (List.mem_of_getElem? (i := 534) (by decide +kernel)) rfl)
theorem k_Law_57 : zw_lk "WordEvidenceLaw" 57 Y_WE_pending.1 := Or.inl (zw_inT (List.mem_of_getElem? (i := 307) (by decide +kernel)) rfl)
theorem k_Law_60 : zw_lk "WordEvidenceLaw" 60 Y_Mo_pending.1 := Or.inl (zw_inT (List.mem_of_getElem? (i := 498) (by decide +kernel)) rfl)
theorem k_Law_61 : zw_lk "WordEvidenceLaw" 61 Y_WE_documents.1 := Or.inl (zw_inT (List.mem_of_getElem? (i := 311) (by decide +kernel)) rfl)
theorem k_Law_64 : zw_lk "WordEvidenceLaw" 64 Y_Mo_documents.1 := Or.inl (zw_inT (List.mem_of_getElem? (i := 538) (by decide +kernel)) rfl)
theorem k_Law_65 : zw_lk "WordEvidenceLaw" 65 Y_WE_total.1 := Or.inl (zw_inT (List.mem_of_getElem? (i := 319) (by decide +kernel)) rfl)
theorem k_Law_68 : zw_lk "WordEvidenceLaw" 68 Y_Mo_total.1 := Or.inl (zw_inT (List.mem_of_getElem? (i := 542) (by decide +kernel)) rfl)
theorem k_Law_69 : zw_lk "WordEvidenceLaw" 69 Y_WE_count.1 := Or.inl (zw_inT (List.mem_of_getElem? (i := 327) (by decide +kernel)) rfl)
theorem k_Law_72 : zw_lk "WordEvidenceLaw" 72 Y_Mo_count.1 := Or.inl (zw_inT (List.mem_of_getElem? (i := 550) (by decide +kernel)) rfl)
theorem k_Law_73 : zw_lk "WordEvidenceLaw" 73 Y_WE_vocabulary.1 := Or.inl (zw_inT (List.mem_of_getElem? (i := 339) (by decide +kernel)) rfl)
theorem k_Law_76 : zw_lk "WordEvidenceLaw" 76 Y_Mo_vocabulary.1 := Or.inl (zw_inT (List.mem_of_getElem? (i := 558) (by decide +kernel)) rfl)
theorem k_Law_77 : zw_lk "WordEvidenceLaw" 77 Y_WE_label.1 := Or.inl (zw_inT (List.mem_of_getElem? (i := 355) (by decide +kernel)) rfl)
theorem k_Law_80 : zw_lk "WordEvidenceLaw" 80 Y_Mo_label.1 := Or.inl (zw_inT (List.mem_of_getElem? (i := 566) (by decide +kernel)) rfl)
theorem k_Law_81 : zw_lk "WordEvidenceLaw" 81 Y_WE_classify.1 := Or.inl (zw_inT (List.mem_of_getElem? (i := 359) (by decide +kernel)) rfl)
theorem k_Law_84 : zw_lk "WordEvidenceLaw" 84 Y_Mo_classify.1 := Or.inl (zw_inT (List.mem_of_getElem? (i := 593) (by decide +kernel)) rfl)
theorem k_Law_85 : zw_lk "WordEvidenceLaw" 85 Y_WE_order.1 := Or.inl (zw_inT (List.mem_of_getElem? (i := 407) (by decide +kernel)) rfl)
theorem k_Law_88 : zw_lk "WordEvidenceLaw" 88 Y_Mo_order.1 := Or.inl (zw_inT (List.mem_of_getElem? (i := 585) (by decide +kernel)) rfl)
theorem k_Law_89 : zw_lk "WordEvidenceLaw" 89 Y_WE_compare.1 := Or.inl (zw_inT (List.mem_of_getElem? (i := 408) (by decide +kernel)) rfl)
theorem k_Law_92 : zw_lk "WordEvidenceLaw" 92 Y_Mo_compare.1 := Or.inl (zw_inT (List.mem_of_getElem? (i := 570) (by decide +kernel)) rfl)
theorem k_Mo_60 : zw_lk "WordEvidenceModel" 60 Y_Mo_plain.1 := Or.inl (zw_inT (List.mem_of_getElem? (i := 490) (by decide +kernel)) rfl)
theorem k_Mo_66 : zw_lk "WordEvidenceModel" 66 Y_Mo_read.1 := Or.inl (zw_inT (List.mem_of_getElem? (i := 486) (by decide +kernel)) rfl)
theorem k_Mo_72 : zw_lk "WordEvidenceModel" 72 Y_Mo_isId.1 := Or.inl (zw_inT (List.mem_of_getElem? (i := 506) (by decide +kernel)) rfl)
theorem k_Mo_76 : zw_lk "WordEvidenceModel" 76 Y_Mo_inForce.1 := Or.inl (zw_inT (List.mem_of_getElem? (i := 509) (by decide +kernel)) rfl)
theorem k_Mo_80 : zw_lk "WordEvidenceModel" 80 Y_Mo_pending.1 := Or.inl (zw_inT (List.mem_of_getElem? (i := 513) (by decide +kernel)) rfl)
theorem k_Mo_83 : zw_lk "WordEvidenceModel" 83 Y_Mo_log.1 := Or.inl (zw_inT (List.mem_of_getElem? (i := 514) (by decide +kernel)) rfl)
theorem k_Mo_87 : zw_lk "WordEvidenceModel" 87 Y_Mo_apply.1 := Or.inl (zw_inT (List.mem_of_getElem? (i := 518) (by decide +kernel)) rfl)
theorem k_Mo_91 : zw_lk "WordEvidenceModel" 91 Y_Mo_copy.1 := Or.inl (zw_inT (List.mem_of_getElem? (i := 530) (by decide +kernel)) rfl)
theorem k_Mo_95 : zw_lk "WordEvidenceModel" 95 Y_Mo_isClass.1 := Or.inl (zw_inT (List.mem_of_getElem? (i := 546) (by decide +kernel)) rfl)
theorem k_Mo_98 : zw_lk "WordEvidenceModel" 98 Y_Mo_howOften.1 := Or.inl (zw_inT (List.mem_of_getElem? (i := 554) (by decide +kernel)) rfl)
theorem k_Mo_102 : zw_lk "WordEvidenceModel" 102 Y_Mo_isNew.1 := Or.inl (zw_inT (List.mem_of_getElem? (i := 562) (by decide +kernel)) rfl)
theorem k_Mo_106 : zw_lk "WordEvidenceModel" 106 Y_Mo_vocabulary.1 := Or.inl (zw_inT (List.mem_of_getElem? (i := 578) (by decide +kernel)) rfl)
theorem k_Mo_109 : zw_lk "WordEvidenceModel" 109 Y_Mo_total.1 := Or.inl (zw_inT (List.mem_of_getElem? (i := 579) (by decide +kernel)) rfl)
theorem k_Mo_112 : zw_lk "WordEvidenceModel" 112 Y_Mo_documents.1 := Or.inl (zw_inT (List.mem_of_getElem? (i := 580) (by decide +kernel)) rfl)
theorem k_Mo_115 : zw_lk "WordEvidenceModel" 115 Y_Mo_times.1 := Or.inl (zw_inT (List.mem_of_getElem? (i := 581) (by decide +kernel)) rfl)
theorem k_Mo_119 : zw_lk "WordEvidenceModel" 119 Y_Mo_against.1 := Or.inl (zw_inT (List.mem_of_getElem? (i := 574) (by decide +kernel)) rfl)
theorem k_Mo_123 : zw_lk "WordEvidenceModel" 123 Y_Mo_place.1 := Or.inl (zw_inT (List.mem_of_getElem? (i := 589) (by decide +kernel)) rfl)
theorem k_Mo_126 : zw_lk "WordEvidenceModel" 126 Y_Mo_order.1 := Or.inl (zw_inT (List.mem_of_getElem? (i := 597) (by decide +kernel)) rfl)
theorem k_Arrays_304 : zw_lk "java/util/Arrays" 304 Y_Math_min.1 := Or.inl (zw_inT (List.mem_of_getElem? (i := 252) (by decide +kernel)) rfl)
theorem t_arrI : Cond.arrayClass .int ∈ zw_T := (zw_inT (List.mem_of_getElem? (i := 102) (by decide +kernel)) rfl)
theorem t_arrL : Cond.arrayClass .long ∈ zw_T := (zw_inT (List.mem_of_getElem? (i := 62) (by decide +kernel)) rfl)
theorem c_WE_7 : Cond.classLink "WordEvidence" 7 "WordEvidence$Text" ∈ zw_T := (zw_inT (List.mem_of_getElem? (i := 39) (by decide +kernel)) rfl)
theorem c_WE_16 : Cond.classLink "WordEvidence" 16 "WordEvidence$Shelf" ∈ zw_T := (zw_inT (List.mem_of_getElem? (i := 63) (by decide +kernel)) rfl)
theorem c_WE_26 : Cond.classLink "WordEvidence" 26 "WordEvidence$Log" ∈ zw_T := (zw_inT (List.mem_of_getElem? (i := 78) (by decide +kernel)) rfl)
theorem c_WE_33 : Cond.classLink "WordEvidence" 33 "WordEvidence$Chances" ∈ zw_T := (zw_inT (List.mem_of_getElem? (i := 103) (by decide +kernel)) rfl)
theorem c_WE_98 : Cond.classLink "WordEvidence" 98 "WordEvidence$Document" ∈ zw_T := (zw_inT (List.mem_of_getElem? (i := 236) (by decide +kernel)) rfl)
theorem c_Chances_15 : Cond.classLink "WordEvidence$Chances" 15 "[[I" ∈ zw_T := (zw_inT (List.mem_of_getElem? (i := 109) (by decide +kernel)) rfl)
theorem c_Chances_23 : Cond.classLink "WordEvidence$Chances" 23 "WordEvidence$Product" ∈ zw_T := (zw_inT (List.mem_of_getElem? (i := 111) (by decide +kernel)) rfl)
theorem c_Log_18 : Cond.classLink "WordEvidence$Log" 18 "WordEvidence$Document" ∈ zw_T := (zw_inT (List.mem_of_getElem? (i := 84) (by decide +kernel)) rfl)
theorem c_Shelf_9 : Cond.classLink "WordEvidence$Shelf" 9 "WordEvidence$Document" ∈ zw_T := (zw_inT (List.mem_of_getElem? (i := 69) (by decide +kernel)) rfl)
theorem c_Law_7 : Cond.classLink "WordEvidenceLaw" 7 "WordEvidence" ∈ zw_T := (zw_inT (List.mem_of_getElem? (i := 31) (by decide +kernel)) rfl)
theorem c_Law_18 : Cond.classLink "WordEvidenceLaw" 18 "WordEvidenceModel" ∈ zw_T := (zw_inT (List.mem_of_getElem? (i := 416) (by decide +kernel)) rfl)
theorem c_Arrays_320 : Cond.classLink "java/util/Arrays" 320 "[J" ∈ zw_T := (zw_inT (List.mem_of_getElem? (i := 251) (by decide +kernel)) rfl)
theorem o_WE_1 : Cond.methodLink "WordEvidence" 1 Lib.objectInit ∈ zw_T := (zw_inT (List.mem_of_getElem? (i := 36) (by decide +kernel)) rfl)
theorem o_Chances_3 : Cond.methodLink "WordEvidence$Chances" 3 Lib.objectInit ∈ zw_T := (zw_inT (List.mem_of_getElem? (i := 108) (by decide +kernel)) rfl)
theorem o_Document_1 : Cond.methodLink "WordEvidence$Document" 1 Lib.objectInit ∈ zw_T := (zw_inT (List.mem_of_getElem? (i := 259) (by decide +kernel)) rfl)
theorem o_Log_3 : Cond.methodLink "WordEvidence$Log" 3 Lib.objectInit ∈ zw_T := (zw_inT (List.mem_of_getElem? (i := 83) (by decide +kernel)) rfl)
theorem o_Product_1 : Cond.methodLink "WordEvidence$Product" 1 Lib.objectInit ∈ zw_T := (zw_inT (List.mem_of_getElem? (i := 116) (by decide +kernel)) rfl)
theorem o_Shelf_3 : Cond.methodLink "WordEvidence$Shelf" 3 Lib.objectInit ∈ zw_T := (zw_inT (List.mem_of_getElem? (i := 68) (by decide +kernel)) rfl)
theorem o_Text_3 : Cond.methodLink "WordEvidence$Text" 3 Lib.objectInit ∈ zw_T := (zw_inT (List.mem_of_getElem? (i := 44) (by decide +kernel)) rfl)
theorem o_Mo_1 : Cond.methodLink "WordEvidenceModel" 1 Lib.objectInit ∈ zw_T := (zw_inT (List.mem_of_getElem? (i := 421) (by decide +kernel)) rfl)
end
section
theorem t_oi : Cond.instanceMethod Lib.objectInit ∈ zw_T := (zw_inT (List.mem_of_getElem? (i := 37) (by decide +kernel)) rfl)
theorem t_oc : Cond.code Lib.objectInit ⟨#[0xb1]⟩ 1 none ∈ zw_T := (zw_inT (List.mem_of_getElem? (i := 38) (by decide +kernel)) rfl)
theorem t_aoD : Cond.arrayOver (.object "WordEvidence$Document") ∈ zw_T := (zw_inT (List.mem_of_getElem? (i := 70) (by decide +kernel)) rfl)
theorem t_aoA : Cond.arrayOver (.array .int) ∈ zw_T := (zw_inT (List.mem_of_getElem? (i := 110) (by decide +kernel)) rfl)
theorem n_Product_19 : Cond.constantLong "WordEvidence$Product" 19 4294967295 ∈ zw_T := (zw_inT (List.mem_of_getElem? (i := 402) (by decide +kernel)) rfl)
theorem n_Mo_64 : Cond.constantLong "WordEvidenceModel" 64 128 ∈ zw_T := (zw_inT (List.mem_of_getElem? (i := 493) (by decide +kernel)) rfl)
theorem t_mmin_s : Cond.static Lib.Math.min.name ∈ zw_T := (zw_inT (List.mem_of_getElem? (i := 144) (by decide +kernel)) rfl)
theorem t_mmin_c : Cond.code Lib.Math.min.name Lib.Math.min.code 2 (some .int) ∈ zw_T := (zw_inT (List.mem_of_getElem? (i := 145) (by decide +kernel)) rfl)
theorem t_mmax_s : Cond.static Lib.Math.max.name ∈ zw_T := (zw_inT (List.mem_of_getElem? (i := 147) (by decide +kernel)) rfl)
theorem t_mmax_c : Cond.code Lib.Math.max.name Lib.Math.max.code 2 (some .int) ∈ zw_T := (zw_inT (List.mem_of_getElem? (i := 148) (by decide +kernel)) rfl)
theorem t_mI : Cond.initialized "java/lang/Math" ∈ zw_T := (zw_inT (List.mem_of_getElem? (i := 25) (by decide +kernel)) rfl)
theorem t_sI : Cond.initialized "java/lang/System" ∈ zw_T := (zw_inT (List.mem_of_getElem? (i := 30) (by decide +kernel)) rfl)
theorem t_ac_s : Cond.static arraycopyName ∈ zw_T := (zw_inT (List.mem_of_getElem? (i := 254) (by decide +kernel)) rfl)
theorem t_ac_n : Cond.native arraycopyName ∈ zw_T := (zw_inT (List.mem_of_getElem? (i := 255) (by decide +kernel)) rfl)
theorem l_WE_40 : Cond.methodLink "WordEvidence" 40 Lib.Math.min.name ∈ zw_T := (zw_inT (List.mem_of_getElem? (i := 143) (by decide +kernel)) rfl)
theorem l_WE_46 : Cond.methodLink "WordEvidence" 46 Lib.Math.max.name ∈ zw_T := (zw_inT (List.mem_of_getElem? (i := 146) (by decide +kernel)) rfl)
theorem l_Arrays_150 : Cond.methodLink "java/util/Arrays" 150 arraycopyName ∈ zw_T := (zw_inT (List.mem_of_getElem? (i := 253) (by decide +kernel)) rfl)
theorem l_Arrays_304 : Cond.methodLink "java/util/Arrays" 304 Lib.Math.min.name ∈ zw_T := (zw_inT (List.mem_of_getElem? (i := 252) (by decide +kernel)) rfl)
theorem t_cl1 : Cond.methodLink "java/util/Arrays" 319 ⟨"[J", "clone", "()Ljava/lang/Object;"⟩ ∈ zw_T := (zw_inT (List.mem_of_getElem? (i := 245) (by decide +kernel)) rfl)
theorem t_cl2 : Cond.sameMethod "[J" "java/lang/Object" "clone" "()Ljava/lang/Object;" ∈ zw_T := (zw_inT (List.mem_of_getElem? (i := 246) (by decide +kernel)) rfl)
theorem t_cl3 : Cond.native ⟨"java/lang/Object", "clone", "()Ljava/lang/Object;"⟩ ∈ zw_T := (zw_inT (List.mem_of_getElem? (i := 247) (by decide +kernel)) rfl)
theorem t_cl4 : Cond.instanceMethod ⟨"java/lang/Object", "clone", "()Ljava/lang/Object;"⟩ ∈ zw_T := (zw_inT (List.mem_of_getElem? (i := 248) (by decide +kernel)) rfl)
theorem t_cl5 : Cond.selects "[J" ⟨"[J", "clone", "()Ljava/lang/Object;"⟩ ⟨"java/lang/Object", "clone", "()Ljava/lang/Object;"⟩ ∈ zw_T := (zw_inT (List.mem_of_getElem? (i := 249) (by decide +kernel)) rfl)
theorem t_cl6 : Cond.castable "[J" "java/lang/Cloneable" ∈ zw_T := (zw_inT (List.mem_of_getElem? (i := 250) (by decide +kernel)) rfl)
theorem zw_dv {T : u_T} {N : Nat} {fs : List Value} (h : ∀ j, j < N → (parseFieldDescriptor (T j).2.2.1).map defaultValue = some (vp_V fs j)) : ∀ j, j < N → ∀ ty, parseFieldDescriptor (T j).2.2.1 = some ty → defaultValue ty = vp_V fs j := fun j hj ty e => by
  have h2 := h j hj
  rw [e] at h2
  exact Option.some.inj h2
theorem nw_WE_7 : zw_nw "WordEvidence" 7 1 [.null, .int 0, .int 0, .int 0] := ⟨_, _, _, cf_Text, c_WE_7, (zw_inT (List.mem_of_getElem? (i := 40) (by decide +kernel)) rfl), (zw_inT (List.mem_of_getElem? (i := 20) (by decide +kernel)) rfl), rfl, zw_dv (by decide +kernel), fun _ => rfl⟩
theorem nw_WE_16 : zw_nw "WordEvidence" 16 2 [.null, .null] := ⟨_, _, _, cf_Shelf, c_WE_16, (zw_inT (List.mem_of_getElem? (i := 64) (by decide +kernel)) rfl), (zw_inT (List.mem_of_getElem? (i := 21) (by decide +kernel)) rfl), rfl, zw_dv (by decide +kernel), fun _ => rfl⟩
theorem nw_WE_26 : zw_nw "WordEvidence" 26 3 [.null, .null, .null, .int 0, .int 0] := ⟨_, _, _, cf_Log, c_WE_26, (zw_inT (List.mem_of_getElem? (i := 79) (by decide +kernel)) rfl), (zw_inT (List.mem_of_getElem? (i := 22) (by decide +kernel)) rfl), rfl, zw_dv (by decide +kernel), fun _ => rfl⟩
theorem nw_WE_33 : zw_nw "WordEvidence" 33 4 [.null, .null, .null, .null, .null, .int 0, .int 0] := ⟨_, _, _, cf_Chances, c_WE_33, (zw_inT (List.mem_of_getElem? (i := 104) (by decide +kernel)) rfl), (zw_inT (List.mem_of_getElem? (i := 23) (by decide +kernel)) rfl), rfl, zw_dv (by decide +kernel), fun _ => rfl⟩
theorem nw_WE_98 : zw_nw "WordEvidence" 98 6 [.int 0, .null] := ⟨_, _, _, cf_Document, c_WE_98, (zw_inT (List.mem_of_getElem? (i := 237) (by decide +kernel)) rfl), (zw_inT (List.mem_of_getElem? (i := 28) (by decide +kernel)) rfl), rfl, zw_dv (by decide +kernel), fun _ => rfl⟩
theorem nw_Chances_23 : zw_nw "WordEvidence$Chances" 23 5 [.null] := ⟨_, _, _, cf_Product, c_Chances_23, (zw_inT (List.mem_of_getElem? (i := 112) (by decide +kernel)) rfl), (zw_inT (List.mem_of_getElem? (i := 24) (by decide +kernel)) rfl), rfl, zw_dv (by decide +kernel), fun _ => rfl⟩
theorem nw_Log_18 : zw_nw "WordEvidence$Log" 18 6 [.int 0, .null] := ⟨_, _, _, cf_Document, c_Log_18, (zw_inT (List.mem_of_getElem? (i := 237) (by decide +kernel)) rfl), (zw_inT (List.mem_of_getElem? (i := 28) (by decide +kernel)) rfl), rfl, zw_dv (by decide +kernel), fun _ => rfl⟩
theorem nw_Shelf_9 : zw_nw "WordEvidence$Shelf" 9 6 [.int 0, .null] := ⟨_, _, _, cf_Document, c_Shelf_9, (zw_inT (List.mem_of_getElem? (i := 237) (by decide +kernel)) rfl), (zw_inT (List.mem_of_getElem? (i := 28) (by decide +kernel)) rfl), rfl, zw_dv (by decide +kernel), fun _ => rfl⟩
theorem nw_Law_7 : zw_nw "WordEvidenceLaw" 7 0 [.int 0, .null, .null, .null, .null, .null] := ⟨_, _, _, cf_WE, c_Law_7, (zw_inT (List.mem_of_getElem? (i := 32) (by decide +kernel)) rfl), (zw_inT (List.mem_of_getElem? (i := 19) (by decide +kernel)) rfl), rfl, zw_dv (by decide +kernel), fun _ => rfl⟩
theorem nw_Law_18 : zw_nw "WordEvidenceLaw" 18 7 [.int 0, .null, .int 0, .null, .null, .int 0, .null, .null, .null, .int 0, .null, .null, .null, .null, .null, .null, .null] := ⟨_, _, _, cf_Mo, c_Law_18, (zw_inT (List.mem_of_getElem? (i := 417) (by decide +kernel)) rfl), (zw_inT (List.mem_of_getElem? (i := 26) (by decide +kernel)) rfl), rfl, zw_dv (by decide +kernel), fun _ => rfl⟩
end
section
/-- a contract's end, said otherwise -/
theorem zw_Z.post {G : zw_G} {Y : zw_Y} {R : Room} {E : State → Prop} {mc ms κ σ pc : Nat} {ls : List (Option Value)} {st : List Value} {w : zw_W} {P Q : Option Value → zw_W → Prop} (h : zw_Z G Y R E (zw_Q G mc ms P) κ σ pc ls st w) (hpq : ∀ v w2, P v w2 → Q v w2) : zw_Z G Y R E (zw_Q G mc ms Q) κ σ pc ls st w := by
  intro p e s m args below meth c H locs ls' F N T hT X
  obtain ⟨t, a1, o, b1, b2, ⟨⟨v, w2, c1, c2, c3⟩, c4⟩, c5⟩ := h p e s m args below meth c H locs ls' F N T hT X
  exact ⟨t, a1, o, b1, b2, ⟨⟨v, w2, c1, hpq v w2 c2, c3⟩, c4⟩, c5⟩
theorem zw_Met.post {G : zw_G} {Y : zw_Y} {d mc ms : Nat} {As : List Value} {w : zw_W} {P Q : Option Value → zw_W → Prop} (h : zw_Met G Y d mc ms As w P) (hpq : ∀ v w2, P v w2 → Q v w2) : zw_Met G Y d mc ms As w Q := zw_Z.post h hpq
end
section
/-! Letters -/
def zf_code (k : Nat) : Int32 := if k = 0 then -1 else nI k
def zf_at (x : Nat) (i : Int32) : Int32 := if i < 0 ∨ ¬ i < nI 8 then -1 else zf_code (x / 2 ^ (8 * i.toNatClampNeg) % 256)
theorem zf_rng {x : Int32} {n : Nat} (hn : n < 2 ^ 31) (h0 : ¬ x < 0) (h1 : x < nI n) : ∃ j : Nat, j < n ∧ x = nI j := by
  rcases pk_ix x hn with h | h | h
  · exact absurd h h0
  · exact absurd h (Int32.not_le.mpr h1)
  · exact h
theorem zf_and255 (n : Nat) : nI n &&& nI 255 = nI (n % 256) := by
  rw [pk_and (nI n) (m := nI 255) 8 (by decide)]
  have h : (nI n).toBitVec.toNat = n % 2 ^ 32 := by
    show (BitVec.ofNat 32 n).toNat = _
    rw [BitVec.toNat_ofNat]
  rw [h]
  congr 1
  omega
abbrev zk_L (n : Nat) (f : Nat → Int64) : zw_C := .inl (1, n, .inr (.inl f))
abbrev zk_I (n : Nat) (f : Nat → Int32) : zw_C := .inl (0, n, .inl f)
abbrev zk_D (n : Nat) (g : Nat → Option Nat) : zw_C := .inl (2, n, .inr (.inr (.inr (.inr g))))
abbrev zk_A (n : Nat) (g : Nat → Option Nat) : zw_C := .inl (3, n, .inr (.inr (.inr (.inr g))))
set_option maxHeartbeats 4000000 in
set_option maxRecDepth 100000 in
theorem c_Letters_fold {G : zw_G} {w : zw_W} {c : Nat} (hc : c < 65536) : zw_Met G Y_Letters_fold 1 0 0 [.int (nI c)] (w) (zw_is (some (.int (zf_code (wf_fold c)))) w) := by
  show zw_Z G Y_Letters_fold _ _ _ 0 0 0 [some (.int (nI c)), none] [] _
  refine zr_iload_n dLetters_fold_0 rfl ?_
  refine zr_bipush (v := nI 65) dLetters_fold_1 (by decide) ?_
  refine zr_icmp_ltN (tgt := 20) (by omega) (by omega) dLetters_fold_3 (by decide) (fun h3 => ?_) (fun h3 => ?_)
  · refine zr_iload_n dLetters_fold_20 rfl ?_
    refine zr_bipush (v := nI 97) dLetters_fold_21 (by decide) ?_
    refine zr_icmp_ltN (tgt := 32) (by omega) (by omega) dLetters_fold_23 (by decide) (fun h23 => ?_) (fun h23 => ?_)
    · refine zr_iload_n dLetters_fold_32 rfl ?_
      refine zr_bipush (v := nI 48) dLetters_fold_33 (by decide) ?_
      refine zr_icmp_ltN (tgt := 48) (by omega) (by omega) dLetters_fold_35 (by decide) (fun h35 => ?_) (fun h35 => ?_)
      · refine zr_iconst (v := nI 0) dLetters_fold_48 (by decide) ?_
        refine zr_istore_n dLetters_fold_49 (by decide) ?_
        refine zr_iload_n dLetters_fold_50 rfl ?_
        refine zr_if_eqN (tgt := 58) (by omega) dLetters_fold_51 (by decide) (fun h51 => ?_) (fun h51 => ?_)
        · refine zr_iconst (v := (-1)) dLetters_fold_58 (by decide) ?_
          exact zr_ireturn dLetters_fold_59 rfl rfl (⟨congrArg (fun x => some (Value.int x)) (by unfold zf_code wf_fold; (repeat' split) <;> first | rfl | (exfalso; omega) | (congr 1; omega) | omega), rfl⟩)
        · exact absurd h51 (by decide)
      · refine zr_iload_n dLetters_fold_38 rfl ?_
        refine zr_bipush (v := nI 57) dLetters_fold_39 (by decide) ?_
        refine zr_icmp_gtN (tgt := 48) (by omega) (by omega) dLetters_fold_41 (by decide) (fun h41 => ?_) (fun h41 => ?_)
        · refine zr_iconst (v := nI 0) dLetters_fold_48 (by decide) ?_
          refine zr_istore_n dLetters_fold_49 (by decide) ?_
          refine zr_iload_n dLetters_fold_50 rfl ?_
          refine zr_if_eqN (tgt := 58) (by omega) dLetters_fold_51 (by decide) (fun h51 => ?_) (fun h51 => ?_)
          · refine zr_iconst (v := (-1)) dLetters_fold_58 (by decide) ?_
            exact zr_ireturn dLetters_fold_59 rfl rfl (⟨congrArg (fun x => some (Value.int x)) (by unfold zf_code wf_fold; (repeat' split) <;> first | rfl | (exfalso; omega) | (congr 1; omega) | omega), rfl⟩)
          · exact absurd h51 (by decide)
        · refine zr_iconst (v := nI 1) dLetters_fold_44 (by decide) ?_
          refine zr_goto (tgt := 49) dLetters_fold_45 (by decide) ?_
          refine zr_istore_n dLetters_fold_49 (by decide) ?_
          refine zr_iload_n dLetters_fold_50 rfl ?_
          refine zr_if_eqN (tgt := 58) (by omega) dLetters_fold_51 (by decide) (fun h51 => ?_) (fun h51 => ?_)
          · exact absurd h51 (by decide)
          · refine zr_iload_n dLetters_fold_54 rfl ?_
            refine zr_goto (tgt := 59) dLetters_fold_55 (by decide) ?_
            exact zr_ireturn dLetters_fold_59 rfl rfl (⟨congrArg (fun x => some (Value.int x)) (by unfold zf_code wf_fold; (repeat' split) <;> first | rfl | (exfalso; omega) | (congr 1; omega) | omega), rfl⟩)
    · refine zr_iload_n dLetters_fold_26 rfl ?_
      refine zr_bipush (v := nI 122) dLetters_fold_27 (by decide) ?_
      refine zr_icmp_leN (tgt := 44) (by omega) (by omega) dLetters_fold_29 (by decide) (fun h29 => ?_) (fun h29 => ?_)
      · refine zr_iconst (v := nI 1) dLetters_fold_44 (by decide) ?_
        refine zr_goto (tgt := 49) dLetters_fold_45 (by decide) ?_
        refine zr_istore_n dLetters_fold_49 (by decide) ?_
        refine zr_iload_n dLetters_fold_50 rfl ?_
        refine zr_if_eqN (tgt := 58) (by omega) dLetters_fold_51 (by decide) (fun h51 => ?_) (fun h51 => ?_)
        · exact absurd h51 (by decide)
        · refine zr_iload_n dLetters_fold_54 rfl ?_
          refine zr_goto (tgt := 59) dLetters_fold_55 (by decide) ?_
          exact zr_ireturn dLetters_fold_59 rfl rfl (⟨congrArg (fun x => some (Value.int x)) (by unfold zf_code wf_fold; (repeat' split) <;> first | rfl | (exfalso; omega) | (congr 1; omega) | omega), rfl⟩)
      · refine zr_iload_n dLetters_fold_32 rfl ?_
        refine zr_bipush (v := nI 48) dLetters_fold_33 (by decide) ?_
        refine zr_icmp_ltN (tgt := 48) (by omega) (by omega) dLetters_fold_35 (by decide) (fun h35 => ?_) (fun h35 => ?_)
        · refine zr_iconst (v := nI 0) dLetters_fold_48 (by decide) ?_
          refine zr_istore_n dLetters_fold_49 (by decide) ?_
          refine zr_iload_n dLetters_fold_50 rfl ?_
          refine zr_if_eqN (tgt := 58) (by omega) dLetters_fold_51 (by decide) (fun h51 => ?_) (fun h51 => ?_)
          · refine zr_iconst (v := (-1)) dLetters_fold_58 (by decide) ?_
            exact zr_ireturn dLetters_fold_59 rfl rfl (⟨congrArg (fun x => some (Value.int x)) (by unfold zf_code wf_fold; (repeat' split) <;> first | rfl | (exfalso; omega) | (congr 1; omega) | omega), rfl⟩)
          · exact absurd h51 (by decide)
        · refine zr_iload_n dLetters_fold_38 rfl ?_
          refine zr_bipush (v := nI 57) dLetters_fold_39 (by decide) ?_
          refine zr_icmp_gtN (tgt := 48) (by omega) (by omega) dLetters_fold_41 (by decide) (fun h41 => ?_) (fun h41 => ?_)
          · refine zr_iconst (v := nI 0) dLetters_fold_48 (by decide) ?_
            refine zr_istore_n dLetters_fold_49 (by decide) ?_
            refine zr_iload_n dLetters_fold_50 rfl ?_
            refine zr_if_eqN (tgt := 58) (by omega) dLetters_fold_51 (by decide) (fun h51 => ?_) (fun h51 => ?_)
            · refine zr_iconst (v := (-1)) dLetters_fold_58 (by decide) ?_
              exact zr_ireturn dLetters_fold_59 rfl rfl (⟨congrArg (fun x => some (Value.int x)) (by unfold zf_code wf_fold; (repeat' split) <;> first | rfl | (exfalso; omega) | (congr 1; omega) | omega), rfl⟩)
            · exact absurd h51 (by decide)
          · refine zr_iconst (v := nI 1) dLetters_fold_44 (by decide) ?_
            refine zr_goto (tgt := 49) dLetters_fold_45 (by decide) ?_
            refine zr_istore_n dLetters_fold_49 (by decide) ?_
            refine zr_iload_n dLetters_fold_50 rfl ?_
            refine zr_if_eqN (tgt := 58) (by omega) dLetters_fold_51 (by decide) (fun h51 => ?_) (fun h51 => ?_)
            · exact absurd h51 (by decide)
            · refine zr_iload_n dLetters_fold_54 rfl ?_
              refine zr_goto (tgt := 59) dLetters_fold_55 (by decide) ?_
              exact zr_ireturn dLetters_fold_59 rfl rfl (⟨congrArg (fun x => some (Value.int x)) (by unfold zf_code wf_fold; (repeat' split) <;> first | rfl | (exfalso; omega) | (congr 1; omega) | omega), rfl⟩)
  · refine zr_iload_n dLetters_fold_6 rfl ?_
    refine zr_bipush (v := nI 90) dLetters_fold_7 (by decide) ?_
    refine zr_icmp_gtN (tgt := 20) (by omega) (by omega) dLetters_fold_9 (by decide) (fun h9 => ?_) (fun h9 => ?_)
    · refine zr_iload_n dLetters_fold_20 rfl ?_
      refine zr_bipush (v := nI 97) dLetters_fold_21 (by decide) ?_
      refine zr_icmp_ltN (tgt := 32) (by omega) (by omega) dLetters_fold_23 (by decide) (fun h23 => ?_) (fun h23 => ?_)
      · refine zr_iload_n dLetters_fold_32 rfl ?_
        refine zr_bipush (v := nI 48) dLetters_fold_33 (by decide) ?_
        refine zr_icmp_ltN (tgt := 48) (by omega) (by omega) dLetters_fold_35 (by decide) (fun h35 => ?_) (fun h35 => ?_)
        · refine zr_iconst (v := nI 0) dLetters_fold_48 (by decide) ?_
          refine zr_istore_n dLetters_fold_49 (by decide) ?_
          refine zr_iload_n dLetters_fold_50 rfl ?_
          refine zr_if_eqN (tgt := 58) (by omega) dLetters_fold_51 (by decide) (fun h51 => ?_) (fun h51 => ?_)
          · refine zr_iconst (v := (-1)) dLetters_fold_58 (by decide) ?_
            exact zr_ireturn dLetters_fold_59 rfl rfl (⟨congrArg (fun x => some (Value.int x)) (by unfold zf_code wf_fold; (repeat' split) <;> first | rfl | (exfalso; omega) | (congr 1; omega) | omega), rfl⟩)
          · exact absurd h51 (by decide)
        · refine zr_iload_n dLetters_fold_38 rfl ?_
          refine zr_bipush (v := nI 57) dLetters_fold_39 (by decide) ?_
          refine zr_icmp_gtN (tgt := 48) (by omega) (by omega) dLetters_fold_41 (by decide) (fun h41 => ?_) (fun h41 => ?_)
          · refine zr_iconst (v := nI 0) dLetters_fold_48 (by decide) ?_
            refine zr_istore_n dLetters_fold_49 (by decide) ?_
            refine zr_iload_n dLetters_fold_50 rfl ?_
            refine zr_if_eqN (tgt := 58) (by omega) dLetters_fold_51 (by decide) (fun h51 => ?_) (fun h51 => ?_)
            · refine zr_iconst (v := (-1)) dLetters_fold_58 (by decide) ?_
              exact zr_ireturn dLetters_fold_59 rfl rfl (⟨congrArg (fun x => some (Value.int x)) (by unfold zf_code wf_fold; (repeat' split) <;> first | rfl | (exfalso; omega) | (congr 1; omega) | omega), rfl⟩)
            · exact absurd h51 (by decide)
          · refine zr_iconst (v := nI 1) dLetters_fold_44 (by decide) ?_
            refine zr_goto (tgt := 49) dLetters_fold_45 (by decide) ?_
            refine zr_istore_n dLetters_fold_49 (by decide) ?_
            refine zr_iload_n dLetters_fold_50 rfl ?_
            refine zr_if_eqN (tgt := 58) (by omega) dLetters_fold_51 (by decide) (fun h51 => ?_) (fun h51 => ?_)
            · exact absurd h51 (by decide)
            · refine zr_iload_n dLetters_fold_54 rfl ?_
              refine zr_goto (tgt := 59) dLetters_fold_55 (by decide) ?_
              exact zr_ireturn dLetters_fold_59 rfl rfl (⟨congrArg (fun x => some (Value.int x)) (by unfold zf_code wf_fold; (repeat' split) <;> first | rfl | (exfalso; omega) | (congr 1; omega) | omega), rfl⟩)
      · refine zr_iload_n dLetters_fold_26 rfl ?_
        refine zr_bipush (v := nI 122) dLetters_fold_27 (by decide) ?_
        refine zr_icmp_leN (tgt := 44) (by omega) (by omega) dLetters_fold_29 (by decide) (fun h29 => ?_) (fun h29 => ?_)
        · refine zr_iconst (v := nI 1) dLetters_fold_44 (by decide) ?_
          refine zr_goto (tgt := 49) dLetters_fold_45 (by decide) ?_
          refine zr_istore_n dLetters_fold_49 (by decide) ?_
          refine zr_iload_n dLetters_fold_50 rfl ?_
          refine zr_if_eqN (tgt := 58) (by omega) dLetters_fold_51 (by decide) (fun h51 => ?_) (fun h51 => ?_)
          · exact absurd h51 (by decide)
          · refine zr_iload_n dLetters_fold_54 rfl ?_
            refine zr_goto (tgt := 59) dLetters_fold_55 (by decide) ?_
            exact zr_ireturn dLetters_fold_59 rfl rfl (⟨congrArg (fun x => some (Value.int x)) (by unfold zf_code wf_fold; (repeat' split) <;> first | rfl | (exfalso; omega) | (congr 1; omega) | omega), rfl⟩)
        · refine zr_iload_n dLetters_fold_32 rfl ?_
          refine zr_bipush (v := nI 48) dLetters_fold_33 (by decide) ?_
          refine zr_icmp_ltN (tgt := 48) (by omega) (by omega) dLetters_fold_35 (by decide) (fun h35 => ?_) (fun h35 => ?_)
          · refine zr_iconst (v := nI 0) dLetters_fold_48 (by decide) ?_
            refine zr_istore_n dLetters_fold_49 (by decide) ?_
            refine zr_iload_n dLetters_fold_50 rfl ?_
            refine zr_if_eqN (tgt := 58) (by omega) dLetters_fold_51 (by decide) (fun h51 => ?_) (fun h51 => ?_)
            · refine zr_iconst (v := (-1)) dLetters_fold_58 (by decide) ?_
              exact zr_ireturn dLetters_fold_59 rfl rfl (⟨congrArg (fun x => some (Value.int x)) (by unfold zf_code wf_fold; (repeat' split) <;> first | rfl | (exfalso; omega) | (congr 1; omega) | omega), rfl⟩)
            · exact absurd h51 (by decide)
          · refine zr_iload_n dLetters_fold_38 rfl ?_
            refine zr_bipush (v := nI 57) dLetters_fold_39 (by decide) ?_
            refine zr_icmp_gtN (tgt := 48) (by omega) (by omega) dLetters_fold_41 (by decide) (fun h41 => ?_) (fun h41 => ?_)
            · refine zr_iconst (v := nI 0) dLetters_fold_48 (by decide) ?_
              refine zr_istore_n dLetters_fold_49 (by decide) ?_
              refine zr_iload_n dLetters_fold_50 rfl ?_
              refine zr_if_eqN (tgt := 58) (by omega) dLetters_fold_51 (by decide) (fun h51 => ?_) (fun h51 => ?_)
              · refine zr_iconst (v := (-1)) dLetters_fold_58 (by decide) ?_
                exact zr_ireturn dLetters_fold_59 rfl rfl (⟨congrArg (fun x => some (Value.int x)) (by unfold zf_code wf_fold; (repeat' split) <;> first | rfl | (exfalso; omega) | (congr 1; omega) | omega), rfl⟩)
              · exact absurd h51 (by decide)
            · refine zr_iconst (v := nI 1) dLetters_fold_44 (by decide) ?_
              refine zr_goto (tgt := 49) dLetters_fold_45 (by decide) ?_
              refine zr_istore_n dLetters_fold_49 (by decide) ?_
              refine zr_iload_n dLetters_fold_50 rfl ?_
              refine zr_if_eqN (tgt := 58) (by omega) dLetters_fold_51 (by decide) (fun h51 => ?_) (fun h51 => ?_)
              · exact absurd h51 (by decide)
              · refine zr_iload_n dLetters_fold_54 rfl ?_
                refine zr_goto (tgt := 59) dLetters_fold_55 (by decide) ?_
                exact zr_ireturn dLetters_fold_59 rfl rfl (⟨congrArg (fun x => some (Value.int x)) (by unfold zf_code wf_fold; (repeat' split) <;> first | rfl | (exfalso; omega) | (congr 1; omega) | omega), rfl⟩)
    · refine zr_iload_n dLetters_fold_12 rfl ?_
      refine zr_bipush (v := nI 65) dLetters_fold_13 (by decide) ?_
      refine zr_isubN (by omega) dLetters_fold_15 ?_
      refine zr_bipush (v := nI 97) dLetters_fold_16 (by decide) ?_
      refine zr_iaddN dLetters_fold_18 ?_
      exact zr_ireturn dLetters_fold_19 rfl rfl (⟨congrArg (fun x => some (Value.int x)) (by unfold zf_code wf_fold; (repeat' split) <;> first | rfl | (exfalso; omega) | (congr 1; omega) | omega), rfl⟩)
set_option maxHeartbeats 4000000 in
set_option maxRecDepth 100000 in
theorem c_Letters_with {G : zw_G} {w : zw_W} {x i k : Nat} (hi : i < 8) (hk : k < 128) (hx : x < 2 ^ (8 * i)) (hb : x + k * 2 ^ (8 * i) < 2 ^ 64) : zw_Met G Y_Letters_with 1 0 0 [.long (lN x), .int (nI i), .int (nI k)] (w) (zw_is (some (.long (lN (x + k * 2 ^ (8 * i))))) w) := by
  show zw_Z G Y_Letters_with _ _ _ 0 0 0 [some (.long (lN x)), none, some (.int (nI i)), some (.int (nI k))] [] _
  refine zr_lload_n dLetters_with_0 rfl ?_
  refine zr_iload_n dLetters_with_1 rfl ?_
  refine zr_i2l dLetters_with_2 (nI_l (by omega)) ?_
  refine zr_bipush (v := nI 8) dLetters_with_3 (by decide) ?_
  refine zr_iload_n dLetters_with_5 rfl ?_
  refine zr_imulN dLetters_with_6 ?_
  refine zr_lshl dLetters_with_7 (wb_shl _ (by omega)) ?_
  refine zr_lor dLetters_with_8 ?_
  refine zr_topL (g_or' (k := 8 * i) rfl hx hb) ?_
  exact zr_lreturn dLetters_with_9 rfl (⟨rfl, rfl⟩)
set_option maxHeartbeats 4000000 in
set_option maxRecDepth 100000 in
theorem c_Letters_at {G : zw_G} {w : zw_W} {x : Nat} {i : Int32} (hx : x < 2 ^ 63) : zw_Met G Y_Letters_at 1 0 0 [.long (lN x), .int i] (w) (zw_is (some (.int (zf_at x i))) w) := by
  show zw_Z G Y_Letters_at _ _ _ 0 0 0 [some (.long (lN x)), none, some (.int i), none] [] _
  refine zr_iload_n dLetters_at_0 rfl ?_
  refine zr_if_lt (tgt := 10) dLetters_at_1 (by decide) (fun h1 => ?_) (fun h1 => ?_)
  · refine zr_iconst (v := (-1)) dLetters_at_10 (by decide) ?_
    exact zr_ireturn dLetters_at_11 rfl rfl (⟨congrArg (fun x => some (Value.int x)) (by unfold zf_at; rw [if_pos (by first | exact Or.inl h1 | exact Or.inr h7)]), rfl⟩)
  · refine zr_iload_n dLetters_at_4 rfl ?_
    refine zr_bipush (v := nI 8) dLetters_at_5 (by decide) ?_
    refine zr_icmp_lt (tgt := 12) dLetters_at_7 (by decide) (fun h7 => ?_) (fun h7 => ?_)
    · obtain ⟨j, hj, rfl⟩ := zf_rng (by decide) h1 h7
      refine zr_lload_n dLetters_at_12 rfl ?_
      refine zr_bipush (v := nI 8) dLetters_at_13 (by decide) ?_
      refine zr_iload_n dLetters_at_15 rfl ?_
      refine zr_imulN dLetters_at_16 ?_
      refine zr_lushr dLetters_at_17 (wb_shr (by omega) (by omega)) ?_
      refine zr_l2i dLetters_at_18 (lN_i _) ?_
      refine zr_sipush (v := nI 255) dLetters_at_19 (by decide) ?_
      refine zr_iand dLetters_at_22 ?_
      refine zr_topI (zf_and255 _) ?_
      refine zr_istore_n dLetters_at_23 (by decide) ?_
      refine zr_iload_n dLetters_at_24 rfl ?_
      refine zr_if_neN (tgt := 32) (by omega) dLetters_at_25 (by decide) (fun h25 => ?_) (fun h25 => ?_)
      · refine zr_iload_n dLetters_at_32 rfl ?_
        exact zr_ireturn dLetters_at_33 rfl rfl (⟨congrArg (fun x => some (Value.int x)) (by unfold zf_at; rw [if_neg (fun q => q.elim h1 (fun z => z h7)), nI_clamp (by omega)]; unfold zf_code; (repeat' split) <;> first | rfl | (exfalso; omega) | (congr 1; omega) | omega), rfl⟩)
      · refine zr_iconst (v := (-1)) dLetters_at_28 (by decide) ?_
        refine zr_goto (tgt := 33) dLetters_at_29 (by decide) ?_
        exact zr_ireturn dLetters_at_33 rfl rfl (⟨congrArg (fun x => some (Value.int x)) (by unfold zf_at; rw [if_neg (fun q => q.elim h1 (fun z => z h7)), nI_clamp (by omega)]; unfold zf_code; (repeat' split) <;> first | rfl | (exfalso; omega) | (congr 1; omega) | omega), rfl⟩)
    · refine zr_iconst (v := (-1)) dLetters_at_10 (by decide) ?_
      exact zr_ireturn dLetters_at_11 rfl rfl (⟨congrArg (fun x => some (Value.int x)) (by unfold zf_at; rw [if_pos (by first | exact Or.inl h1 | exact Or.inr h7)]), rfl⟩)
end
section
/-! Arrays.fill, Document, Product -/
theorem zf_upk {f d : Nat → Int64} {k : Nat} : vp_updL (fun j => if j < k then d j else f j) k (d k) = fun j => if j < k + 1 then d j else f j := by
  funext j
  show (if j = k then d k else if j < k then d j else f j) = if j < k + 1 then d j else f j
  by_cases h : j = k
  · rw [if_pos h, if_pos (by omega), h]
  · rw [if_neg h]
    by_cases h2 : j < k
    · rw [if_pos h2, if_pos (by omega)]
    · rw [if_neg h2, if_neg (by omega)]
theorem zf_fill {f : Nat → Int64} {x : Int64} {i : Nat} : vp_updL (fun j => if j < i then x else f j) i x = fun j => if j < i + 1 then x else f j := zf_upk (d := fun _ => x)
theorem zf_setself {w : zw_W} {i : Nat} {x : zw_C} (h : w[i]? = some x) : w = w.set i x := by
  apply List.ext_getElem?
  intro j
  rw [List.getElem?_set]
  by_cases e : i = j
  · subst e
    rw [if_pos rfl, if_pos (List.getElem?_eq_some_iff.mp h).1]
    exact h
  · rw [if_neg e]
theorem zf_len {w w2 : zw_W} {i : Nat} {x : zw_C} (h : w2 = w.set i x) : w2.length = w.length + 0 := by rw [h, List.length_set]; rfl
set_option maxHeartbeats 4000000 in
set_option maxRecDepth 100000 in
theorem c_Arrays_fill {G : zw_G} {w : zw_W} {i n : Nat} {f : Nat → Int64} {x : Int64} (hn : n < 1000) (hi : w[i]? = some (zk_L n f)) : zw_Met G Y_Arrays_fill 0 0 0 [.ref (i + 1), .long x] w (zw_is none (w.set i (zk_L n (fun j => if j < n then x else f j)))) := by
  have hl : i < w.length := (List.getElem?_eq_some_iff.mp hi).1
  have key : ∀ k, k ≤ n → zw_Z G Y_Arrays_fill (zw_R 0 0 0) (fun _ => True) (zw_Q G 0 0 (zw_is none (w.set i (zk_L n (fun j => if j < n then x else f j))))) 0 0 6 [some (.ref (i + 1)), some (.long x), none, some (.int (nI k)), some (.int (nI n))] [] (w.set i (zk_L n (fun j => if j < k then x else f j))) := by
    refine wz_up n (fun k hk ih => ?_) ?_
    · refine zr_iload_n dArrays_fill_6 rfl ?_
      refine zr_iload dArrays_fill_7 rfl ?_
      refine zr_icmp_geN (tgt := 22) (by omega) (by omega) dArrays_fill_9 (by decide) (fun h9 => ?_) (fun h9 => ?_)
      · exfalso; omega
      · refine zr_aload_n dArrays_fill_12 rfl rfl ?_
        refine zr_iload_n dArrays_fill_13 rfl ?_
        refine zr_lload_n dArrays_fill_14 rfl ?_
        refine zr_last dArrays_fill_15 (List.getElem?_set_self hl) (hk) (by omega) ?_
        rw [List.set_set, zf_fill]
        refine zr_iinc (v := nI (_ + 1)) dArrays_fill_16 rfl (nI_1 _) (by decide) ?_
        refine zr_goto (tgt := 6) dArrays_fill_19 (by decide) ?_
        exact ih
    · refine zr_iload_n dArrays_fill_6 rfl ?_
      refine zr_iload dArrays_fill_7 rfl ?_
      refine zr_icmp_geN (tgt := 22) (by omega) (by omega) dArrays_fill_9 (by decide) (fun h9 => ?_) (fun h9 => ?_)
      · exact zr_return dArrays_fill_22 rfl (⟨rfl, rfl⟩)
      · exfalso; omega
  show zw_Z G Y_Arrays_fill _ _ _ 0 0 0 [some (.ref (i + 1)), some (.long x), none, none, none] [] _
  refine zr_iconst (v := nI 0) dArrays_fill_0 (by decide) ?_
  refine zr_istore_n dArrays_fill_1 (by decide) ?_
  refine zr_aload_n dArrays_fill_2 rfl rfl ?_
  refine zr_alen dArrays_fill_3 hi (by decide) rfl ?_
  refine zr_istore dArrays_fill_4 (by decide) ?_
  have e : w = w.set i (zk_L n (fun j => if j < 0 then x else f j)) := by
    rw [show (fun j => if j < 0 then x else f j) = f from funext fun j => if_neg (Nat.not_lt_zero j)]
    exact zf_setself hi
  refine zr_wld e ?_
  exact key 0 (Nat.zero_le n)
set_option maxHeartbeats 4000000 in
set_option maxRecDepth 100000 in
theorem c_Document_timesOf {G : zw_G} {w : zw_W} {q n : Nat} {f : Nat → Int64} {x : Int64} {c : Int32} (hn : n < 1000) (hq : w[q]? = some (.inr (6, [.int c, .ref (q + 2)]))) (hf : w[q + 1]? = some (zk_L n f)) : zw_Met G Y_Document_timesOf 0 0 0 [.ref (q + 1), .long x] w (zw_is (some (.int (nI (wn_sum (fun j => if f j = x then 1 else 0) n)))) w) := by
  have key : ∀ k, k ≤ n → zw_Z G Y_Document_timesOf (zw_R 0 0 0) (fun _ => True) (zw_Q G 0 0 (zw_is (some (.int (nI (wn_sum (fun j => if f j = x then 1 else 0) n)))) w)) 0 0 16 [some (.ref (q + 1)), some (.long x), none, some (.int (nI (wn_sum (fun j => if f j = x then 1 else 0) k))), some (.ref (q + 2)), some (.int (nI n)), some (.int (nI k)), none, none] [] w := by
    refine wz_up n (fun k hk ih => ?_) ?_
    · refine zr_iload dDocument_timesOf_16 rfl ?_
      refine zr_iload dDocument_timesOf_18 rfl ?_
      refine zr_icmp_geN (tgt := 46) (by omega) (by omega) dDocument_timesOf_20 (by decide) (fun h20 => ?_) (fun h20 => ?_)
      · exfalso; omega
      · refine zr_aload dDocument_timesOf_23 rfl rfl ?_
        refine zr_iload dDocument_timesOf_25 rfl ?_
        refine zr_lald dDocument_timesOf_27 hf (hk) (by omega) ?_
        refine zr_lstore dDocument_timesOf_28 (by decide) ?_
        refine zr_lload dDocument_timesOf_30 rfl ?_
        refine zr_lload_n dDocument_timesOf_32 rfl ?_
        refine zr_lcmp_ne (tgt := 40) dDocument_timesOf_33 dDocument_timesOf_34 (by decide) (fun h33 => ?_) (fun h33 => ?_)
        · rw [wn_sum, if_neg h33, Nat.add_zero] at ih
          refine zr_iinc (v := nI (k + 1)) dDocument_timesOf_40 rfl (nI_1 _) (by decide) ?_
          refine zr_goto (tgt := 16) dDocument_timesOf_43 (by decide) ?_
          exact zr_mask [true, true, true, true, true, true, true, false, false] ih
        · refine zr_iinc (v := nI (wn_sum (fun j => if f j = x then 1 else 0) (k + 1))) dDocument_timesOf_37 rfl (by rw [wn_sum, if_pos h33]; exact nI_1 _) (by decide) ?_
          refine zr_iinc (v := nI (k + 1)) dDocument_timesOf_40 rfl (nI_1 _) (by decide) ?_
          refine zr_goto (tgt := 16) dDocument_timesOf_43 (by decide) ?_
          exact zr_mask [true, true, true, true, true, true, true, false, false] ih
    · refine zr_iload dDocument_timesOf_16 rfl ?_
      refine zr_iload dDocument_timesOf_18 rfl ?_
      refine zr_icmp_geN (tgt := 46) (by omega) (by omega) dDocument_timesOf_20 (by decide) (fun h20 => ?_) (fun h20 => ?_)
      · refine zr_iload_n dDocument_timesOf_46 rfl ?_
        exact zr_ireturn dDocument_timesOf_47 rfl rfl (⟨by rfl, rfl⟩)
      · exfalso; omega
  show zw_Z G Y_Document_timesOf _ _ _ 0 0 0 [some (.ref (q + 1)), some (.long x), none, none, none, none, none, none, none] [] _
  refine zr_iconst (v := nI 0) dDocument_timesOf_0 (by decide) ?_
  refine zr_istore_n dDocument_timesOf_1 (by decide) ?_
  refine zr_aload_n dDocument_timesOf_2 rfl rfl ?_
  refine zr_getf g_Document_13 dDocument_timesOf_3 hq rfl ?_
  refine zr_astore dDocument_timesOf_6 (by decide) rfl ?_
  refine zr_aload dDocument_timesOf_8 rfl rfl ?_
  refine zr_alen dDocument_timesOf_10 hf (by decide) rfl ?_
  refine zr_istore dDocument_timesOf_11 (by decide) ?_
  refine zr_iconst (v := nI 0) dDocument_timesOf_13 (by decide) ?_
  refine zr_istore dDocument_timesOf_14 (by decide) ?_
  exact key 0 (Nat.zero_le n)
set_option maxHeartbeats 4000000 in
set_option maxRecDepth 100000 in
theorem c_Document_init {G : zw_G} {w : zw_W} {q : Nat} {c : Int32} {a : Nat} (hq : w[q]? = some (.inr (6, [.int 0, .null]))) : zw_Met G Y_Document_init 1 0 0 [.ref (q + 1), .int c, .ref a] w (zw_is none (w.set q (.inr (6, [.int c, .ref a])))) := by
  have hl : q < w.length := (List.getElem?_eq_some_iff.mp hq).1
  show zw_Z G Y_Document_init _ _ _ 0 0 0 [some (.ref (q + 1)), some (.int c), some (.ref a)] [] _
  refine zr_aload_n dDocument_init_0 rfl rfl ?_
  refine zr_objInit o_Document_1 t_oi t_oc dDocument_init_1 (by decide) ?_
  refine zr_aload_n dDocument_init_4 rfl rfl ?_
  refine zr_iload_n dDocument_init_5 rfl ?_
  refine zr_putF f_Document_7 rfl dDocument_init_6 hq (Nat.le_of_ble_eq_true rfl) (fun _ => rfl) (fun _ => rfl) ?_
  refine zr_aload_n dDocument_init_9 rfl rfl ?_
  refine zr_aload_n dDocument_init_10 rfl rfl ?_
  refine zr_putF f_Document_13 rfl dDocument_init_11 (List.getElem?_set_self hl) (Nat.le_of_ble_eq_true rfl) (fun _ => rfl) (fun _ => rfl) ?_
  rw [List.set_set]
  exact zr_return dDocument_init_14 rfl (⟨rfl, rfl⟩)
theorem zf_mask32 {a : Nat} (h : a < 2 ^ 64) : lN a &&& 4294967295 = lN (a % 4294967296) := g_mask (s := 32) (p := 4294967296) (by decide) (by decide) h
theorem zf_shr32 {a : Nat} (h : a < 2 ^ 64) : ((lN a).toUInt64 >>> ((nI 32).toInt64.toUInt64 &&& Int64.toUInt64 63)).toInt64 = lN (a / 4294967296) := wb_shr (k := 32) h (by decide)
def zf_dn (k : Nat) : Int32 := match k with
  | 0 => -1
  | j + 1 => nI j
theorem zf_dn_step (k : Nat) : nI k + Int32.ofInt (-1) = zf_dn k := by
  cases k with
  | zero => decide
  | succ k => exact pk_m1 k
def zf_sgn (x y : Nat) : Int32 := if x = y then 0 else if y < x then 1 else -1
set_option maxHeartbeats 4000000 in
set_option maxRecDepth 100000 in
theorem c_Product_start {G : zw_G} {w : zw_W} {i v : Nat} {f : Nat → Int64} (hv : v < 2 ^ 31) (hi : w[i]? = some (.inr (5, [.ref (i + 2)]))) (hj : w[i + 1]? = some (zk_L 12 f)) : zw_Met G Y_Product_start 1 0 0 [.ref (i + 1), .int (nI v)] w (fun r w2 => r = none ∧ ∃ f2, w2 = w.set (i + 1) (zk_L 12 f2) ∧ ∀ j, j < 12 → f2 j = lN (if j = 0 then v else 0)) := by
  have hl : i + 1 < w.length := (List.getElem?_eq_some_iff.mp hj).1
  show zw_Z G Y_Product_start _ _ _ 0 0 0 [some (.ref (i + 1)), some (.int (nI v))] [] _
  refine zr_aload_n dProduct_start_0 rfl rfl ?_
  refine zr_getf g_Product_9 dProduct_start_1 hi rfl ?_
  refine zr_lconst (v := 0) dProduct_start_4 (by decide) ?_
  refine zr_invS (c_Arrays_fill (by omega) hj) m_Arrays_fill k_Product_13 (s_Arrays_fill) dProduct_start_5 rfl (Nat.le_of_ble_eq_true rfl) (by decide) (Nat.le_of_ble_eq_true rfl) rfl (fun v w2 hp => ?_)
  obtain ⟨rfl, rfl⟩ := hp
  refine ⟨by rw [List.length_set]; rfl, ?_⟩
  refine zr_aload_n dProduct_start_8 rfl rfl ?_
  refine zr_getf g_Product_9 dProduct_start_9 (by rw [List.getElem?_set_ne (by omega)]; exact hi) rfl ?_
  refine zr_iconst (v := nI 0) dProduct_start_12 (by decide) ?_
  refine zr_iload_n dProduct_start_13 rfl ?_
  refine zr_i2l dProduct_start_14 (nI_l hv) ?_
  refine zr_last dProduct_start_15 (List.getElem?_set_self hl) (by omega) (by decide) ?_
  rw [List.set_set]
  exact zr_return dProduct_start_16 rfl (⟨rfl, _, rfl, fun j hj2 => by
    show (if j = 0 then lN v else if j < 12 then 0 else f j) = _
    by_cases h : j = 0
    · rw [if_pos h, if_pos h]
    · rw [if_neg h, if_neg h, if_pos hj2]; rfl⟩)
set_option maxHeartbeats 4000000 in
set_option maxRecDepth 100000 in
theorem c_Product_times {G : zw_G} {w : zw_W} {i q : Nat} {f : Nat → Int64} {F : Nat → Nat} (hq : q < 2 ^ 31) (hF : ∀ j, j < 12 → F j < 4294967296) (hf : ∀ j, j < 12 → f j = lN (F j)) (hi : w[i]? = some (.inr (5, [.ref (i + 2)]))) (hj : w[i + 1]? = some (zk_L 12 f)) : zw_Met G Y_Product_times 0 0 0 [.ref (i + 1), .int (nI q)] w (zw_is none (w.set (i + 1) (zk_L 12 (fun j => if j < 12 then lN ((F j * q + wv_c 4294967296 q F j) % 4294967296) else f j)))) := by
  have hl : i + 1 < w.length := (List.getElem?_eq_some_iff.mp hj).1
  have key : ∀ k, k ≤ 12 → zw_Z G Y_Product_times (zw_R 0 0 0) (fun _ => True) (zw_Q G 0 0 (zw_is none (w.set (i + 1) (zk_L 12 (fun j => if j < 12 then lN ((F j * q + wv_c 4294967296 q F j) % 4294967296) else f j))))) 0 0 5 [some (.ref (i + 1)), some (.int (nI q)), some (.long (lN (wv_c 4294967296 q F k))), none, some (.int (nI k)), none, none] [] (w.set (i + 1) (zk_L 12 (fun j => if j < k then lN ((F j * q + wv_c 4294967296 q F j) % 4294967296) else f j))) := by
    refine wz_up 12 (fun k hk ih => ?_) ?_
    · have hs : F k * q + wv_c 4294967296 q F k < 2 ^ 64 := by
        have h1 := wv_c_le (q := q) (n := 12) (by decide) hF k (by omega)
        have h2 : F k * q ≤ 4294967295 * q := Nat.mul_le_mul_right q (by have := hF k hk; omega)
        omega
      refine zr_iload dProduct_times_5 rfl ?_
      refine zr_bipush (v := nI 12) dProduct_times_7 (by decide) ?_
      refine zr_icmp_geN (tgt := 51) (by omega) (by omega) dProduct_times_9 (by decide) (fun h9 => ?_) (fun h9 => ?_)
      · exfalso; omega
      · refine zr_aload_n dProduct_times_12 rfl rfl ?_
        refine zr_getf g_Product_9 dProduct_times_13 (by rw [List.getElem?_set_ne (by omega)]; exact hi) rfl ?_
        refine zr_iload dProduct_times_16 rfl ?_
        refine zr_lald dProduct_times_18 (List.getElem?_set_self hl) (hk) (by decide) ?_
        refine zr_topL ((if_neg (Nat.lt_irrefl k)).trans (hf k hk)) ?_
        refine zr_iload_n dProduct_times_19 rfl ?_
        refine zr_i2l dProduct_times_20 (nI_l hq) ?_
        refine zr_lmul dProduct_times_21 ?_
        refine zr_topL (lN_mul _ _) ?_
        refine zr_lload_n dProduct_times_22 rfl ?_
        refine zr_ladd dProduct_times_23 ?_
        refine zr_topL (lN_add _ _) ?_
        refine zr_lstore dProduct_times_24 (by decide) ?_
        refine zr_aload_n dProduct_times_26 rfl rfl ?_
        refine zr_getf g_Product_9 dProduct_times_27 (by rw [List.getElem?_set_ne (by omega)]; exact hi) rfl ?_
        refine zr_iload dProduct_times_30 rfl ?_
        refine zr_lload dProduct_times_32 rfl ?_
        refine zr_ldc2 n_Product_19 dProduct_times_34 ?_
        refine zr_land dProduct_times_37 ?_
        refine zr_topL (zf_mask32 hs) ?_
        refine zr_last dProduct_times_38 (List.getElem?_set_self hl) (hk) (by decide) ?_
        rw [List.set_set, zf_upk (d := fun j => lN ((F j * q + wv_c 4294967296 q F j) % 4294967296))]
        refine zr_lload dProduct_times_39 rfl ?_
        refine zr_bipush (v := nI 32) dProduct_times_41 (by decide) ?_
        refine zr_lushr dProduct_times_43 (zf_shr32 hs) ?_
        refine zr_lstore_n dProduct_times_44 (by decide) ?_
        refine zr_iinc (v := nI (k + 1)) dProduct_times_45 rfl (nI_1 _) (by decide) ?_
        refine zr_goto (tgt := 5) dProduct_times_48 (by decide) ?_
        exact zr_mask [true, true, true, false, true, false, false] ih
    · refine zr_iload dProduct_times_5 rfl ?_
      refine zr_bipush (v := nI 12) dProduct_times_7 (by decide) ?_
      refine zr_icmp_geN (tgt := 51) (by omega) (by omega) dProduct_times_9 (by decide) (fun h9 => ?_) (fun h9 => ?_)
      · exact zr_return dProduct_times_51 rfl (⟨rfl, rfl⟩)
      · exfalso; omega
  show zw_Z G Y_Product_times _ _ _ 0 0 0 [some (.ref (i + 1)), some (.int (nI q)), none, none, none, none, none] [] _
  refine zr_lconst (v := 0) dProduct_times_0 (by decide) ?_
  refine zr_lstore_n dProduct_times_1 (by decide) ?_
  refine zr_iconst (v := nI 0) dProduct_times_2 (by decide) ?_
  refine zr_istore dProduct_times_3 (by decide) ?_
  have e : w = w.set (i + 1) (zk_L 12 (fun j => if j < 0 then lN ((F j * q + wv_c 4294967296 q F j) % 4294967296) else f j)) := by
    rw [show (fun j => if j < 0 then lN ((F j * q + wv_c 4294967296 q F j) % 4294967296) else f j) = f from funext fun j => if_neg (Nat.not_lt_zero j)]
    exact zf_setself hj
  refine zr_wld e ?_
  exact key 0 (Nat.zero_le 12)
set_option maxHeartbeats 4000000 in
set_option maxRecDepth 100000 in
theorem c_Product_signAgainst {G : zw_G} {w : zw_W} {i i2 : Nat} {f g : Nat → Int64} {F H : Nat → Nat} (hF : ∀ j, j < 12 → F j < 4294967296) (hH : ∀ j, j < 12 → H j < 4294967296) (hf : ∀ j, j < 12 → f j = lN (F j)) (hg : ∀ j, j < 12 → g j = lN (H j)) (hi : w[i]? = some (.inr (5, [.ref (i + 2)]))) (hj : w[i + 1]? = some (zk_L 12 f)) (hi2 : w[i2]? = some (.inr (5, [.ref (i2 + 2)]))) (hj2 : w[i2 + 1]? = some (zk_L 12 g)) : zw_Met G Y_Product_signAgainst 0 0 0 [.ref (i + 1), .ref (i2 + 1)] w (zw_is (some (.int (zf_sgn (wv 4294967296 F 12) (wv 4294967296 H 12)))) w) := by
  have key : ∀ k, k ≤ 12 → (∀ j, k ≤ j → j < 12 → F j = H j) → zw_Z G Y_Product_signAgainst (zw_R 0 0 0) (fun _ => True) (zw_Q G 0 0 (zw_is (some (.int (zf_sgn (wv 4294967296 F 12) (wv 4294967296 H 12)))) w)) 0 0 3 [some (.ref (i + 1)), some (.ref (i2 + 1)), some (.int (zf_dn k))] [] w := by
    intro k
    induction k with
    | zero =>
      intro _ hab
      refine zr_iload_n dProduct_signAgainst_3 rfl ?_
      refine zr_if_lt (tgt := 51) dProduct_signAgainst_4 (by decide) (fun h4 => ?_) (fun h4 => ?_)
      · refine zr_iconst (v := nI 0) dProduct_signAgainst_51 (by decide) ?_
        exact zr_ireturn dProduct_signAgainst_52 rfl rfl (⟨congrArg (fun x => some (Value.int x)) (by unfold zf_sgn; rw [if_pos (wv_congr fun j hj => hab j (Nat.zero_le _) hj)]; rfl), rfl⟩)
      · exact absurd (show (-1 : Int32) < 0 by decide) h4
    | succ k ih =>
      intro hk hab
      refine zr_iload_n dProduct_signAgainst_3 rfl ?_
      refine zr_if_ltN (tgt := 51) (by omega) dProduct_signAgainst_4 (by decide) (fun h4 => ?_) (fun h4 => ?_)
      · exact h4.elim
      · refine zr_aload_n dProduct_signAgainst_7 rfl rfl ?_
        refine zr_getf g_Product_9 dProduct_signAgainst_8 hi rfl ?_
        refine zr_iload_n dProduct_signAgainst_11 rfl ?_
        refine zr_lald dProduct_signAgainst_12 hj (by omega) (by decide) ?_
        refine zr_topL (hf k (by omega)) ?_
        refine zr_aload_n dProduct_signAgainst_13 rfl rfl ?_
        refine zr_getf g_Product_9 dProduct_signAgainst_14 hi2 rfl ?_
        refine zr_iload_n dProduct_signAgainst_17 rfl ?_
        refine zr_lald dProduct_signAgainst_18 hj2 (by omega) (by decide) ?_
        refine zr_topL (hg k (by omega)) ?_
        refine zr_lcmp_eq (tgt := 45) dProduct_signAgainst_19 dProduct_signAgainst_20 (by decide) (fun h19 => ?_) (fun h19 => ?_)
        · refine zr_iinc (v := zf_dn k) dProduct_signAgainst_45 rfl (zf_dn_step k) (by decide) ?_
          refine zr_goto (tgt := 3) dProduct_signAgainst_48 (by decide) ?_
          refine ih (by omega) (fun j h1 h2 => ?_)
          by_cases e : j = k
          · rw [e]; exact (pk_lEQ (by have := hF k (by omega); omega) (by have := hH k (by omega); omega)).mp h19
          · exact hab j (by omega) h2
        · have hne : F k ≠ H k := fun u => h19 (by rw [u])
          refine zr_aload_n dProduct_signAgainst_23 rfl rfl ?_
          refine zr_getf g_Product_9 dProduct_signAgainst_24 hi rfl ?_
          refine zr_iload_n dProduct_signAgainst_27 rfl ?_
          refine zr_lald dProduct_signAgainst_28 hj (by omega) (by decide) ?_
          refine zr_topL (hf k (by omega)) ?_
          refine zr_aload_n dProduct_signAgainst_29 rfl rfl ?_
          refine zr_getf g_Product_9 dProduct_signAgainst_30 hi2 rfl ?_
          refine zr_iload_n dProduct_signAgainst_33 rfl ?_
          refine zr_lald dProduct_signAgainst_34 hj2 (by omega) (by decide) ?_
          refine zr_topL (hg k (by omega)) ?_
          refine zr_lcmp_le (tgt := 43) dProduct_signAgainst_35 dProduct_signAgainst_36 (by decide) (fun h35 => ?_) (fun h35 => ?_)
          · have hlt : F k < H k := by
              have h1 : ¬ H k < F k := fun u => h35 ((pk_lLT (by have := hH k (by omega); omega) (by have := hF k (by omega); omega)).mpr u)
              omega
            have hw := wv_cmp hF (by omega) (fun j h1 h2 => hab j (by omega) h2) hlt
            refine zr_iconst (v := (-1)) dProduct_signAgainst_43 (by decide) ?_
            exact zr_ireturn dProduct_signAgainst_44 rfl rfl (⟨congrArg (fun x => some (Value.int x)) (by unfold zf_sgn; rw [if_neg (by omega)]; first | (rw [if_pos (by omega)]; rfl) | (rw [if_neg (by omega)]; done)), rfl⟩)
          · have hlt : H k < F k := (pk_lLT (by have := hH k (by omega); omega) (by have := hF k (by omega); omega)).mp h35
            have hw := wv_cmp hH (by omega) (fun j h1 h2 => (hab j (by omega) h2).symm) hlt
            refine zr_iconst (v := nI 1) dProduct_signAgainst_39 (by decide) ?_
            refine zr_goto (tgt := 44) dProduct_signAgainst_40 (by decide) ?_
            exact zr_ireturn dProduct_signAgainst_44 rfl rfl (⟨congrArg (fun x => some (Value.int x)) (by unfold zf_sgn; rw [if_neg (by omega)]; first | (rw [if_pos (by omega)]; rfl) | (rw [if_neg (by omega)]; done)), rfl⟩)
  show zw_Z G Y_Product_signAgainst _ _ _ 0 0 0 [some (.ref (i + 1)), some (.ref (i2 + 1)), none] [] _
  refine zr_bipush (v := nI 11) dProduct_signAgainst_0 (by decide) ?_
  refine zr_istore_n dProduct_signAgainst_2 (by decide) ?_
  exact key 12 (Nat.le_refl 12) (fun j h1 h2 => by omega)
end
section
/-! Text: cells 1 and 2 of the world -/
abbrev zk_Text (wc len run : Nat) : zw_C := .inr (1, [.ref 3, .int (nI wc), .int (nI len), .int (nI run)])
theorem zf_upL {f : Nat → Int64} {k : Nat} {x : Int64} : vp_updL f k x k = x := if_pos rfl
theorem zf_upLn {f : Nat → Int64} {k j : Nat} {x : Int64} (h : j ≠ k) : vp_updL f k x j = f j := if_neg h
theorem zf_pow (i : Nat) : 256 ^ i = 2 ^ (8 * i) := by
  rw [Nat.pow_mul]
set_option maxHeartbeats 4000000 in
set_option maxRecDepth 100000 in
theorem c_Text_init {G : zw_G} {c0 : zw_C} : zw_Met G Y_Text_init 1 1 20 [.ref 2] ([c0, .inr (1, [.null, .int 0, .int 0, .int 0])]) (zw_is none [c0, zk_Text 0 0 0, zk_L 20 (fun _ => 0)]) := by
  show zw_Z G Y_Text_init _ _ _ 0 0 0 [some (.ref 2)] [] _
  refine zr_aload_n dText_init_0 rfl rfl ?_
  refine zr_objInit o_Text_3 t_oi t_oc dText_init_1 (by decide) ?_
  refine zr_aload_n dText_init_4 rfl rfl ?_
  refine zr_bipush (v := nI 20) dText_init_5 (by decide) ?_
  refine zr_newL t_arrL dText_init_7 (by decide) (by decide) ?_
  refine zr_putF f_Text_9 rfl dText_init_9 rfl (Nat.le_of_ble_eq_true rfl) (fun _ => rfl) (fun _ => rfl) ?_
  refine zr_aload_n dText_init_12 rfl rfl ?_
  refine zr_iconst (v := nI 0) dText_init_13 (by decide) ?_
  refine zr_putf f_Text_15 dText_init_14 rfl (Nat.le_of_ble_eq_true rfl) (fun _ => rfl) (fun _ => rfl) ?_
  refine zr_aload_n dText_init_17 rfl rfl ?_
  refine zr_iconst (v := nI 0) dText_init_18 (by decide) ?_
  refine zr_putf f_Text_19 dText_init_19 rfl (Nat.le_of_ble_eq_true rfl) (fun _ => rfl) (fun _ => rfl) ?_
  refine zr_aload_n dText_init_22 rfl rfl ?_
  refine zr_iconst (v := nI 0) dText_init_23 (by decide) ?_
  refine zr_putf f_Text_22 dText_init_24 rfl (Nat.le_of_ble_eq_true rfl) (fun _ => rfl) (fun _ => rfl) ?_
  exact zr_return dText_init_27 rfl (⟨rfl, rfl⟩)
set_option maxHeartbeats 4000000 in
set_option maxRecDepth 100000 in
theorem c_Text_empty {G : zw_G} {c0 : zw_C} {r : zw_W} {wc len run : Nat} {tw : Nat → Int64} : zw_Met G Y_Text_empty 0 0 0 [.ref 2] ((c0 :: zk_Text wc len run :: zk_L 20 tw :: r)) (zw_is (some (.int (nI len))) (c0 :: zk_Text 0 0 0 :: zk_L 20 tw :: r)) := by
  show zw_Z G Y_Text_empty _ _ _ 0 0 0 [some (.ref 2), none] [] _
  refine zr_aload_n dText_empty_0 rfl rfl ?_
  refine zr_getf g_Text_19 dText_empty_1 rfl rfl ?_
  refine zr_istore_n dText_empty_4 (by decide) ?_
  refine zr_aload_n dText_empty_5 rfl rfl ?_
  refine zr_iconst (v := nI 0) dText_empty_6 (by decide) ?_
  refine zr_putf f_Text_19 dText_empty_7 rfl (Nat.le_of_ble_eq_true rfl) (fun _ => rfl) (fun _ => rfl) ?_
  refine zr_aload_n dText_empty_10 rfl rfl ?_
  refine zr_iconst (v := nI 0) dText_empty_11 (by decide) ?_
  refine zr_putf f_Text_22 dText_empty_12 rfl (Nat.le_of_ble_eq_true rfl) (fun _ => rfl) (fun _ => rfl) ?_
  refine zr_aload_n dText_empty_15 rfl rfl ?_
  refine zr_iconst (v := nI 0) dText_empty_16 (by decide) ?_
  refine zr_putf f_Text_15 dText_empty_17 rfl (Nat.le_of_ble_eq_true rfl) (fun _ => rfl) (fun _ => rfl) ?_
  refine zr_iload_n dText_empty_20 rfl ?_
  exact zr_ireturn dText_empty_21 rfl rfl (⟨rfl, rfl⟩)
set_option maxHeartbeats 4000000 in
set_option maxRecDepth 100000 in
theorem c_Text_hasWord {G : zw_G} {c0 : zw_C} {r : zw_W} {wc len run : Nat} {tw : Nat → Int64} {k : Int32} : zw_Met G Y_Text_hasWord 0 0 0 [.ref 2, .int k] ((c0 :: zk_Text wc len run :: zk_L 20 tw :: r)) (zw_is (some (.int (zw_b (¬ k < 0 ∧ k < nI wc)))) (c0 :: zk_Text wc len run :: zk_L 20 tw :: r)) := by
  show zw_Z G Y_Text_hasWord _ _ _ 0 0 0 [some (.ref 2), some (.int k)] [] _
  refine zr_iload_n dText_hasWord_0 rfl ?_
  refine zr_if_lt (tgt := 16) dText_hasWord_1 (by decide) (fun h1 => ?_) (fun h1 => ?_)
  · have hb : zw_b (¬ k < 0 ∧ k < nI wc) = 0 := zw_b0 (fun q => q.1 h1)
    refine zr_iconst (v := nI 0) dText_hasWord_16 (by decide) ?_
    exact zr_ireturn dText_hasWord_17 rfl rfl (⟨congrArg (fun x => some (Value.int x)) hb.symm, rfl⟩)
  · refine zr_iload_n dText_hasWord_4 rfl ?_
    refine zr_aload_n dText_hasWord_5 rfl rfl ?_
    refine zr_getf g_Text_15 dText_hasWord_6 rfl rfl ?_
    refine zr_icmp_ge (tgt := 16) dText_hasWord_9 (by decide) (fun h9 => ?_) (fun h9 => ?_)
    · have hb : zw_b (¬ k < 0 ∧ k < nI wc) = 0 := zw_b0 (fun q => Int32.not_le.mpr q.2 h9)
      refine zr_iconst (v := nI 0) dText_hasWord_16 (by decide) ?_
      exact zr_ireturn dText_hasWord_17 rfl rfl (⟨congrArg (fun x => some (Value.int x)) hb.symm, rfl⟩)
    · have hb : zw_b (¬ k < 0 ∧ k < nI wc) = 1 := zw_b1 ⟨h1, Int32.not_le.mp h9⟩
      refine zr_iconst (v := nI 1) dText_hasWord_12 (by decide) ?_
      refine zr_goto (tgt := 17) dText_hasWord_13 (by decide) ?_
      exact zr_ireturn dText_hasWord_17 rfl rfl (⟨congrArg (fun x => some (Value.int x)) hb.symm, rfl⟩)
set_option maxHeartbeats 4000000 in
set_option maxRecDepth 100000 in
theorem c_Text_run0 {G : zw_G} {c0 : zw_C} {r : zw_W} {len k wc : Nat} {tw : Nat → Int64} (hk : k < 128) (hwc : wc < 20) : zw_Met G Y_Text_lengthenRun 2 0 0 [.ref 2, .int (nI k)] ((c0 :: zk_Text wc len 0 :: zk_L 20 tw :: r)) (zw_is none (c0 :: zk_Text (wc + 1) len (0 + 1) :: zk_L 20 (vp_updL (vp_updL tw wc 0) wc (lN (0 + k * 2 ^ (8 * 0)))) :: r)) := by
  show zw_Z G Y_Text_lengthenRun _ _ _ 0 0 0 [some (.ref 2), some (.int (nI k)), none] [] _
  refine zr_aload_n dText_lengthenRun_0 rfl rfl ?_
  refine zr_getf g_Text_22 dText_lengthenRun_1 rfl rfl ?_
  refine zr_if_neN (tgt := 36) (by omega) dText_lengthenRun_4 (by decide) (fun h4 => ?_) (fun h4 => ?_)
  · exact absurd rfl h4
  · refine zr_aload_n dText_lengthenRun_7 rfl rfl ?_
    refine zr_getf g_Text_15 dText_lengthenRun_8 rfl rfl ?_
    refine zr_bipush (v := nI 20) dText_lengthenRun_11 (by decide) ?_
    refine zr_icmp_geN (tgt := 36) (by omega) (by omega) dText_lengthenRun_13 (by decide) (fun h13 => ?_) (fun h13 => ?_)
    · exfalso; omega
    · refine zr_aload_n dText_lengthenRun_16 rfl rfl ?_
      refine zr_getf g_Text_9 dText_lengthenRun_17 rfl rfl ?_
      refine zr_aload_n dText_lengthenRun_20 rfl rfl ?_
      refine zr_getf g_Text_15 dText_lengthenRun_21 rfl rfl ?_
      refine zr_lconst (v := 0) dText_lengthenRun_24 (by decide) ?_
      refine zr_last dText_lengthenRun_25 rfl (hwc) (by decide) ?_
      refine zr_aload_n dText_lengthenRun_26 rfl rfl ?_
      refine zr_dup dText_lengthenRun_27 rfl ?_
      refine zr_getf g_Text_15 dText_lengthenRun_28 rfl rfl ?_
      refine zr_iconst (v := nI 1) dText_lengthenRun_31 (by decide) ?_
      refine zr_iaddN dText_lengthenRun_32 ?_
      refine zr_putf f_Text_15 dText_lengthenRun_33 rfl (Nat.le_of_ble_eq_true rfl) (fun _ => rfl) (fun _ => rfl) ?_
      refine zr_aload_n dText_lengthenRun_36 rfl rfl ?_
      refine zr_getf g_Text_22 dText_lengthenRun_37 rfl rfl ?_
      refine zr_bipush (v := nI 8) dText_lengthenRun_40 (by decide) ?_
      refine zr_icmp_geN (tgt := 79) (by omega) (by omega) dText_lengthenRun_42 (by decide) (fun h42 => ?_) (fun h42 => ?_)
      · exfalso; omega
      · refine zr_aload_n dText_lengthenRun_45 rfl rfl ?_
        refine zr_getf g_Text_15 dText_lengthenRun_46 rfl rfl ?_
        refine zr_if_leN (tgt := 79) (by omega) dText_lengthenRun_49 (by decide) (fun h49 => ?_) (fun h49 => ?_)
        · exfalso; omega
        · refine zr_aload_n dText_lengthenRun_52 rfl rfl ?_
          refine zr_getf g_Text_15 dText_lengthenRun_53 rfl rfl ?_
          refine zr_iconst (v := nI 1) dText_lengthenRun_56 (by decide) ?_
          refine zr_isubN (by omega) dText_lengthenRun_57 ?_
          refine zr_istore_n dText_lengthenRun_58 (by decide) ?_
          refine zr_aload_n dText_lengthenRun_59 rfl rfl ?_
          refine zr_getf g_Text_9 dText_lengthenRun_60 rfl rfl ?_
          refine zr_iload_n dText_lengthenRun_63 rfl ?_
          refine zr_aload_n dText_lengthenRun_64 rfl rfl ?_
          refine zr_getf g_Text_9 dText_lengthenRun_65 rfl rfl ?_
          refine zr_iload_n dText_lengthenRun_68 rfl ?_
          refine zr_lald dText_lengthenRun_69 rfl (by omega) (by decide) ?_
          refine zr_topL (show vp_updL tw wc 0 (wc + 1 - 1) = lN 0 from by rw [Nat.add_sub_cancel]; exact zf_upL) ?_
          refine zr_aload_n dText_lengthenRun_70 rfl rfl ?_
          refine zr_getf g_Text_22 dText_lengthenRun_71 rfl rfl ?_
          refine zr_iload_n dText_lengthenRun_74 rfl ?_
          refine zr_invS (c_Letters_with (x := 0) (i := 0) (k := k) (by omega) hk (by decide) (by omega)) m_Letters_with k_Text_35 (s_Letters_with) dText_lengthenRun_75 rfl (Nat.le_of_ble_eq_true rfl) (by decide) (Nat.le_of_ble_eq_true rfl) rfl (fun v w2 hp => ?_)
          obtain ⟨rfl, rfl⟩ := hp
          refine ⟨rfl, ?_⟩
          refine zr_last dText_lengthenRun_78 rfl (by omega) (by decide) ?_
          rw [Nat.add_sub_cancel]
          refine zr_aload_n dText_lengthenRun_79 rfl rfl ?_
          refine zr_dup dText_lengthenRun_80 rfl ?_
          refine zr_getf g_Text_22 dText_lengthenRun_81 rfl rfl ?_
          refine zr_iconst (v := nI 1) dText_lengthenRun_84 (by decide) ?_
          refine zr_iaddN dText_lengthenRun_85 ?_
          refine zr_putf f_Text_22 dText_lengthenRun_86 rfl (Nat.le_of_ble_eq_true rfl) (fun _ => rfl) (fun _ => rfl) ?_
          exact zr_return dText_lengthenRun_89 rfl (⟨rfl, rfl⟩)
set_option maxHeartbeats 4000000 in
set_option maxRecDepth 100000 in
theorem c_Text_run1 {G : zw_G} {c0 : zw_C} {r : zw_W} {len k wc : Nat} {tw : Nat → Int64} {x run : Nat} (hk : k < 128) (hr0 : 0 < run) (hr : run < 8) (hwc0 : 0 < wc) (hwc : wc ≤ 20) (hx : x < 2 ^ (8 * run)) (hb : x + k * 2 ^ (8 * run) < 2 ^ 64) (htw : tw (wc - 1) = lN x) : zw_Met G Y_Text_lengthenRun 2 0 0 [.ref 2, .int (nI k)] ((c0 :: zk_Text wc len run :: zk_L 20 tw :: r)) (zw_is none (c0 :: zk_Text wc len (run + 1) :: zk_L 20 (vp_updL tw (wc - 1) (lN (x + k * 2 ^ (8 * run)))) :: r)) := by
  show zw_Z G Y_Text_lengthenRun _ _ _ 0 0 0 [some (.ref 2), some (.int (nI k)), none] [] _
  refine zr_aload_n dText_lengthenRun_0 rfl rfl ?_
  refine zr_getf g_Text_22 dText_lengthenRun_1 rfl rfl ?_
  refine zr_if_neN (tgt := 36) (by omega) dText_lengthenRun_4 (by decide) (fun h4 => ?_) (fun h4 => ?_)
  · refine zr_aload_n dText_lengthenRun_36 rfl rfl ?_
    refine zr_getf g_Text_22 dText_lengthenRun_37 rfl rfl ?_
    refine zr_bipush (v := nI 8) dText_lengthenRun_40 (by decide) ?_
    refine zr_icmp_geN (tgt := 79) (by omega) (by omega) dText_lengthenRun_42 (by decide) (fun h42 => ?_) (fun h42 => ?_)
    · exfalso; omega
    · refine zr_aload_n dText_lengthenRun_45 rfl rfl ?_
      refine zr_getf g_Text_15 dText_lengthenRun_46 rfl rfl ?_
      refine zr_if_leN (tgt := 79) (by omega) dText_lengthenRun_49 (by decide) (fun h49 => ?_) (fun h49 => ?_)
      · exfalso; omega
      · refine zr_aload_n dText_lengthenRun_52 rfl rfl ?_
        refine zr_getf g_Text_15 dText_lengthenRun_53 rfl rfl ?_
        refine zr_iconst (v := nI 1) dText_lengthenRun_56 (by decide) ?_
        refine zr_isubN (by omega) dText_lengthenRun_57 ?_
        refine zr_istore_n dText_lengthenRun_58 (by decide) ?_
        refine zr_aload_n dText_lengthenRun_59 rfl rfl ?_
        refine zr_getf g_Text_9 dText_lengthenRun_60 rfl rfl ?_
        refine zr_iload_n dText_lengthenRun_63 rfl ?_
        refine zr_aload_n dText_lengthenRun_64 rfl rfl ?_
        refine zr_getf g_Text_9 dText_lengthenRun_65 rfl rfl ?_
        refine zr_iload_n dText_lengthenRun_68 rfl ?_
        refine zr_lald dText_lengthenRun_69 rfl (by omega) (by decide) ?_
        refine zr_topL htw ?_
        refine zr_aload_n dText_lengthenRun_70 rfl rfl ?_
        refine zr_getf g_Text_22 dText_lengthenRun_71 rfl rfl ?_
        refine zr_iload_n dText_lengthenRun_74 rfl ?_
        refine zr_invS (c_Letters_with (x := x) (i := run) (k := k) (by omega) hk hx hb) m_Letters_with k_Text_35 (s_Letters_with) dText_lengthenRun_75 rfl (Nat.le_of_ble_eq_true rfl) (by decide) (Nat.le_of_ble_eq_true rfl) rfl (fun v w2 hp => ?_)
        obtain ⟨rfl, rfl⟩ := hp
        refine ⟨rfl, ?_⟩
        refine zr_last dText_lengthenRun_78 rfl (by omega) (by decide) ?_
        refine zr_aload_n dText_lengthenRun_79 rfl rfl ?_
        refine zr_dup dText_lengthenRun_80 rfl ?_
        refine zr_getf g_Text_22 dText_lengthenRun_81 rfl rfl ?_
        refine zr_iconst (v := nI 1) dText_lengthenRun_84 (by decide) ?_
        refine zr_iaddN dText_lengthenRun_85 ?_
        refine zr_putf f_Text_22 dText_lengthenRun_86 rfl (Nat.le_of_ble_eq_true rfl) (fun _ => rfl) (fun _ => rfl) ?_
        exact zr_return dText_lengthenRun_89 rfl (⟨rfl, rfl⟩)
  · exfalso; omega
set_option maxHeartbeats 4000000 in
set_option maxRecDepth 100000 in
theorem c_Text_run8 {G : zw_G} {c0 : zw_C} {r : zw_W} {len k wc : Nat} {tw : Nat → Int64} {run : Nat} (hr : 8 ≤ run) (hr2 : run < 1000) : zw_Met G Y_Text_lengthenRun 2 0 0 [.ref 2, .int (nI k)] ((c0 :: zk_Text wc len run :: zk_L 20 tw :: r)) (zw_is none (c0 :: zk_Text wc len (run + 1) :: zk_L 20 tw :: r)) := by
  show zw_Z G Y_Text_lengthenRun _ _ _ 0 0 0 [some (.ref 2), some (.int (nI k)), none] [] _
  refine zr_aload_n dText_lengthenRun_0 rfl rfl ?_
  refine zr_getf g_Text_22 dText_lengthenRun_1 rfl rfl ?_
  refine zr_if_neN (tgt := 36) (by omega) dText_lengthenRun_4 (by decide) (fun h4 => ?_) (fun h4 => ?_)
  · refine zr_aload_n dText_lengthenRun_36 rfl rfl ?_
    refine zr_getf g_Text_22 dText_lengthenRun_37 rfl rfl ?_
    refine zr_bipush (v := nI 8) dText_lengthenRun_40 (by decide) ?_
    refine zr_icmp_geN (tgt := 79) (by omega) (by omega) dText_lengthenRun_42 (by decide) (fun h42 => ?_) (fun h42 => ?_)
    · refine zr_aload_n dText_lengthenRun_79 rfl rfl ?_
      refine zr_dup dText_lengthenRun_80 rfl ?_
      refine zr_getf g_Text_22 dText_lengthenRun_81 rfl rfl ?_
      refine zr_iconst (v := nI 1) dText_lengthenRun_84 (by decide) ?_
      refine zr_iaddN dText_lengthenRun_85 ?_
      refine zr_putf f_Text_22 dText_lengthenRun_86 rfl (Nat.le_of_ble_eq_true rfl) (fun _ => rfl) (fun _ => rfl) ?_
      exact zr_return dText_lengthenRun_89 rfl (⟨rfl, rfl⟩)
    · exfalso; omega
  · exfalso; omega
set_option maxHeartbeats 4000000 in
set_option maxRecDepth 100000 in
/-- lengthenRun: the words' next state -/
theorem c_Text_lengthenRun {G : zw_G} {c0 : zw_C} {r : zw_W} {len k m : Nat} {s : wt_S} {tw : Nat → Int64} (hk : 0 < k ∧ k < 128) (hok : wt_ok m s) (hm : m < 40) (hr : s.2.2 < 1000) (htw : ∀ i, i < s.1 → tw i = lN (we_a (s.2.1 i))) :
    zw_Met G Y_Text_lengthenRun 2 0 0 [.ref 2, .int (nI k)] (c0 :: zk_Text s.1 len s.2.2 :: zk_L 20 tw :: r) (fun v w2 => v = none ∧ ∃ tw2, w2 = c0 :: zk_Text (wt_step s k).1 len (wt_step s k).2.2 :: zk_L 20 tw2 :: r ∧ ∀ i, i < (wt_step s k).1 → tw2 i = lN (we_a ((wt_step s k).2.1 i))) := by
  obtain ⟨wc, Wd, run⟩ := s
  obtain ⟨h1, h2, h3⟩ := hok
  simp only at h1 h2 h3 hr htw ⊢
  have hk0 : ¬ k = 0 := by omega
  by_cases hr0 : run = 0
  · subst hr0
    rw [if_pos rfl] at h1
    have e : wt_step (wc, Wd, 0) k = (wc + 1, va_up Wd wc [k], 1) := by simp [wt_step, hk0]
    rw [e]
    refine zw_Met.post (c_Text_run0 hk.2 (by omega)) (fun v w2 hp => ?_)
    obtain ⟨rfl, rfl⟩ := hp
    refine ⟨rfl, _, rfl, fun i hi => ?_⟩
    simp only at hi ⊢
    by_cases hi2 : i = wc
    · subst hi2
      rw [zf_upL]
      simp [va_up, we_a]
    · rw [zf_upLn hi2, zf_upLn hi2, htw i (by omega)]
      simp [va_up, hi2]
  · rw [if_neg hr0] at h1
    obtain ⟨g1, g2⟩ := h3 (by omega)
    by_cases h8 : run < 8
    · rw [if_pos h8] at g2
      have e : wt_step (wc, Wd, run) k = (wc, va_up Wd (wc - 1) (Wd (wc - 1) ++ [k]), run + 1) := by simp [wt_step, hk0, hr0, h8]
      rw [e]
      have hw := h2 (wc - 1) (by omega)
      have hx : we_a (Wd (wc - 1)) < 2 ^ (8 * run) := by
        have := we_a_lt (Wd (wc - 1)) (fun q hq => (hw.2.2 q hq).2)
        rw [g2, zf_pow] at this
        exact this
      have hsn : we_a (Wd (wc - 1) ++ [k]) = we_a (Wd (wc - 1)) + k * 2 ^ (8 * run) := by rw [we_a_snoc, g2, zf_pow]
      have hb : we_a (Wd (wc - 1)) + k * 2 ^ (8 * run) < 2 ^ 64 := by
        rw [← hsn]
        have := we_a_lt2 (Wd (wc - 1) ++ [k]) (fun q hq => by
          rcases List.mem_append.mp hq with h6 | h6
          · exact (hw.2.2 q h6).2
          · rw [List.mem_singleton] at h6; omega) (by simp; omega)
        omega
      refine zw_Met.post (c_Text_run1 hk.2 (by omega) h8 g1 (by omega) hx hb (htw _ (by omega))) (fun v w2 hp => ?_)
      obtain ⟨rfl, rfl⟩ := hp
      refine ⟨rfl, _, rfl, fun i hi => ?_⟩
      simp only at hi ⊢
      by_cases hi2 : i = wc - 1
      · subst hi2
        rw [zf_upL, ← hsn]
        simp [va_up]
      · rw [zf_upLn hi2, htw i (by omega)]
        simp [va_up, hi2]
    · have e : wt_step (wc, Wd, run) k = (wc, Wd, run + 1) := by simp [wt_step, hk0, hr0, h8]
      rw [e]
      refine zw_Met.post (c_Text_run8 (by omega) hr) (fun v w2 hp => ?_)
      obtain ⟨rfl, rfl⟩ := hp
      exact ⟨rfl, _, rfl, htw⟩
/-- what a character leaves of a text: len characters, the words s -/
def zf_key (len : Nat) (s : wt_S) (c : Nat) : Nat × wt_S := if 32 ≤ c ∧ c ≤ 126 ∧ len < 40 then (len + 1, wt_step s (wf_fold c)) else (len, s)
theorem zf_ne1 {a : Nat} (h : a < 2 ^ 31) : ¬ nI a = -1 := fun e => by
  have h1 := nI_pos h
  rw [e] at h1
  exact h1 (by decide)
set_option maxHeartbeats 4000000 in
set_option maxRecDepth 100000 in
theorem c_Text_append {G : zw_G} {c0 : zw_C} {r : zw_W} {len c : Nat} {s : wt_S} {tw : Nat → Int64} (hc : c < 65536) (hlen : len ≤ 40) (hok : wt_ok len s) (hr : s.2.2 < 1000) (htw : ∀ i, i < s.1 → tw i = lN (we_a (s.2.1 i))) :
    zw_Met G Y_Text_append 3 0 0 [.ref 2, .int (nI c)] (c0 :: zk_Text s.1 len s.2.2 :: zk_L 20 tw :: r) (fun v w2 => v = some (.int (zw_b (32 ≤ c ∧ c ≤ 126 ∧ len < 40))) ∧ ∃ tw2, w2 = c0 :: zk_Text (zf_key len s c).2.1 (zf_key len s c).1 (zf_key len s c).2.2.2 :: zk_L 20 tw2 :: r ∧ ∀ i, i < (zf_key len s c).2.1 → tw2 i = lN (we_a ((zf_key len s c).2.2.1 i))) := by
  show zw_Z G Y_Text_append _ _ _ 0 0 0 [some (.ref 2), some (.int (nI c)), none] [] _
  refine zr_iload_n dText_append_0 rfl ?_
  refine zr_bipush (v := nI 32) dText_append_1 (by decide) ?_
  refine zr_icmp_ltN (tgt := 21) (by omega) (by omega) dText_append_3 (by decide) (fun h3 => ?_) (fun h3 => ?_)
  · refine zr_iconst (v := nI 0) dText_append_21 (by decide) ?_
    exact zr_ireturn dText_append_22 rfl rfl (⟨congrArg (fun x => some (Value.int x)) (zw_b0 (fun q => by omega)).symm, tw, by rw [show zf_key len s c = (len, s) from if_neg (fun q => by omega)], by rw [show zf_key len s c = (len, s) from if_neg (fun q => by omega)]; exact htw⟩)
  · refine zr_iload_n dText_append_6 rfl ?_
    refine zr_bipush (v := nI 126) dText_append_7 (by decide) ?_
    refine zr_icmp_gtN (tgt := 21) (by omega) (by omega) dText_append_9 (by decide) (fun h9 => ?_) (fun h9 => ?_)
    · refine zr_iconst (v := nI 0) dText_append_21 (by decide) ?_
      exact zr_ireturn dText_append_22 rfl rfl (⟨congrArg (fun x => some (Value.int x)) (zw_b0 (fun q => by omega)).symm, tw, by rw [show zf_key len s c = (len, s) from if_neg (fun q => by omega)], by rw [show zf_key len s c = (len, s) from if_neg (fun q => by omega)]; exact htw⟩)
    · refine zr_aload_n dText_append_12 rfl rfl ?_
      refine zr_getf g_Text_19 dText_append_13 rfl rfl ?_
      refine zr_bipush (v := nI 40) dText_append_16 (by decide) ?_
      refine zr_icmp_ltN (tgt := 23) (by omega) (by omega) dText_append_18 (by decide) (fun h18 => ?_) (fun h18 => ?_)
      · have hin : 32 ≤ c ∧ c ≤ 126 ∧ len < 40 := ⟨by omega, by omega, by omega⟩
        have ez : zf_key len s c = (len + 1, wt_step s (wf_fold c)) := if_pos hin
        rw [ez]
        refine zr_aload_n dText_append_23 rfl rfl ?_
        refine zr_dup dText_append_24 rfl ?_
        refine zr_getf g_Text_19 dText_append_25 rfl rfl ?_
        refine zr_iconst (v := nI 1) dText_append_28 (by decide) ?_
        refine zr_iaddN dText_append_29 ?_
        refine zr_putf f_Text_19 dText_append_30 rfl (Nat.le_of_ble_eq_true rfl) (fun _ => rfl) (fun _ => rfl) ?_
        refine zr_iload_n dText_append_33 rfl ?_
        refine zr_invS (c_Letters_fold hc) m_Letters_fold k_Text_25 (s_Letters_fold) dText_append_34 rfl (Nat.le_of_ble_eq_true rfl) (by decide) (Nat.le_of_ble_eq_true rfl) rfl (fun v w2 hp => ?_)
        obtain ⟨rfl, rfl⟩ := hp
        refine ⟨rfl, ?_⟩
        by_cases hz : wf_fold c = 0
        · rw [show zf_code (wf_fold c) = -1 from if_pos hz]
          refine zr_istore_n dText_append_37 (by decide) ?_
          refine zr_iload_n dText_append_38 rfl ?_
          refine zr_iconst (v := (-1)) dText_append_39 (by decide) ?_
          refine zr_icmp_ne (tgt := 51) dText_append_40 (by decide) (fun h40 => ?_) (fun h40 => ?_)
          · exact absurd rfl h40
          · refine zr_aload_n dText_append_43 rfl rfl ?_
            refine zr_iconst (v := nI 0) dText_append_44 (by decide) ?_
            refine zr_putf f_Text_22 dText_append_45 rfl (Nat.le_of_ble_eq_true rfl) (fun _ => rfl) (fun _ => rfl) ?_
            refine zr_goto (tgt := 56) dText_append_48 (by decide) ?_
            refine zr_iconst (v := (1)) dText_append_56 (by decide) ?_
            exact zr_ireturn dText_append_57 rfl rfl (⟨congrArg (fun x => some (Value.int x)) (zw_b1 hin).symm, tw, by rw [hz]; rfl, by rw [hz]; exact htw⟩)
        · rw [show zf_code (wf_fold c) = nI (wf_fold c) from if_neg hz]
          refine zr_istore_n dText_append_37 (by decide) ?_
          refine zr_iload_n dText_append_38 rfl ?_
          refine zr_iconst (v := (-1)) dText_append_39 (by decide) ?_
          refine zr_icmp_ne (tgt := 51) dText_append_40 (by decide) (fun h40 => ?_) (fun h40 => ?_)
          · refine zr_aload_n dText_append_51 rfl rfl ?_
            refine zr_iload_n dText_append_52 rfl ?_
            refine zr_invV (c_Text_lengthenRun (m := len) ⟨by omega, wf_fold_lt c⟩ hok (by omega) hr htw) m_Text_lengthenRun k_Text_31 v_Text_lengthenRun rfl rfl dText_append_53 rfl (Nat.le_of_ble_eq_true rfl) (by decide) (Nat.le_of_ble_eq_true rfl) rfl (fun v w2 hp => ?_)
            obtain ⟨rfl, tw2, rfl, ht2⟩ := hp
            refine ⟨rfl, ?_⟩
            refine zr_iconst (v := (1)) dText_append_56 (by decide) ?_
            exact zr_ireturn dText_append_57 rfl rfl (⟨congrArg (fun x => some (Value.int x)) (zw_b1 hin).symm, tw2, rfl, ht2⟩)
          · exact absurd h40 (zf_ne1 (by have := wf_fold_lt c; omega))
      · refine zr_iconst (v := nI 0) dText_append_21 (by decide) ?_
        exact zr_ireturn dText_append_22 rfl rfl (⟨congrArg (fun x => some (Value.int x)) (zw_b0 (fun q => by omega)).symm, tw, by rw [show zf_key len s c = (len, s) from if_neg (fun q => by omega)], by rw [show zf_key len s c = (len, s) from if_neg (fun q => by omega)]; exact htw⟩)
end
section
/-! Arrays.copyOf (a clone where the length stays), Text.copyOfWords -/
theorem zf_app_set {w : zw_W} {x y : zw_C} : (w ++ [x]).set w.length y = w ++ [y] := by
  rw [List.set_append_right _ _ (Nat.le_refl _), Nat.sub_self]
  rfl
theorem zf_app_at {w : zw_W} {x : zw_C} : (w ++ [x])[w.length]? = some x := by
  rw [List.getElem?_append_right (Nat.le_refl _), Nat.sub_self]
  rfl
theorem zf_app_lt {w v : zw_W} {i : Nat} {x : zw_C} (h : w[i]? = some x) : (w ++ v)[i]? = some x := by
  rw [List.getElem?_append_left (List.getElem?_eq_some_iff.mp h).1]
  exact h
set_option maxHeartbeats 4000000 in
set_option maxRecDepth 100000 in
theorem c_Arrays_copyOf {G : zw_G} {w : zw_W} {i n m : Nat} {f : Nat → Int64} (hn : n < 1000) (hm : m ≤ n) (hi : w[i]? = some (zk_L n f)) : zw_Met G Y_Arrays_copyOf 1 1 m [.ref (i + 1), .int (nI m)] w (fun v w2 => v = some (.ref (w.length + 1)) ∧ ∃ f2, w2 = w ++ [zk_L m f2] ∧ ∀ j, j < m → f2 j = f j) := by
  show zw_Z G Y_Arrays_copyOf _ _ _ 0 0 0 [some (.ref (i + 1)), some (.int (nI m)), none] [] _
  refine zr_iload_n dArrays_copyOf_0 rfl ?_
  refine zr_aload_n dArrays_copyOf_1 rfl rfl ?_
  refine zr_alen dArrays_copyOf_2 hi (by decide) rfl ?_
  refine zr_icmp_neN (tgt := 14) (by omega) (by omega) dArrays_copyOf_3 (by decide) (fun h3 => ?_) (fun h3 => ?_)
  · refine zr_iload_n dArrays_copyOf_14 rfl ?_
    refine zr_newL t_arrL dArrays_copyOf_15 (by omega) ⟨Nat.le_of_ble_eq_true rfl, by show 0 + m ≤ m; omega⟩ ?_
    refine zr_astore_n dArrays_copyOf_17 (by decide) rfl ?_
    refine zr_aload_n dArrays_copyOf_18 rfl rfl ?_
    refine zr_iconst (v := nI 0) dArrays_copyOf_19 (by decide) ?_
    refine zr_aload_n dArrays_copyOf_20 rfl rfl ?_
    refine zr_iconst (v := nI 0) dArrays_copyOf_21 (by decide) ?_
    refine zr_aload_n dArrays_copyOf_22 rfl rfl ?_
    refine zr_alen dArrays_copyOf_23 (zf_app_lt hi) (by decide) rfl ?_
    refine zr_iload_n dArrays_copyOf_24 rfl ?_
    refine zr_mmin l_Arrays_304 t_mmin_s t_mI t_mmin_c dArrays_copyOf_25 ⟨Nat.le_of_ble_eq_true rfl, Nat.le_of_ble_eq_true rfl, by show 0 + 1 ≤ 1; omega, by show 0 + m ≤ m; omega⟩ ?_
    refine zr_topI (y := nI m) (if_pos (nI_lt (by omega) (by omega))) ?_
    refine zr_copyl l_Arrays_150 t_ac_n t_ac_s t_sI dArrays_copyOf_28 (zf_app_lt hi) zf_app_at (by omega) (by omega) ⟨by omega, by omega⟩ ⟨Nat.le_of_ble_eq_true rfl, Nat.le_of_ble_eq_true rfl⟩ ?_
    rw [zf_app_set, Nat.zero_add, Nat.zero_add]
    refine zr_aload_n dArrays_copyOf_31 rfl rfl ?_
    exact zr_areturn dArrays_copyOf_32 rfl (Or.inr ⟨_, rfl⟩) rfl (⟨rfl, _, rfl, fun j hj => by rw [pk_cpy_in (Nat.zero_le j) (by omega)]; congr 1; omega⟩)
  · subst h3
    refine zr_aload_n dArrays_copyOf_6 rfl rfl ?_
    refine zr_clone t_cl1 t_cl2 t_cl3 t_cl4 t_cl5 t_cl6 dArrays_copyOf_7 hi ⟨Nat.le_of_ble_eq_true rfl, Nat.le_of_ble_eq_true rfl, Nat.le_of_ble_eq_true rfl, by show 0 + m ≤ m; omega⟩ ?_
    refine zr_castJ c_Arrays_320 dArrays_copyOf_10 zf_app_at ?_
    rw [Nat.zero_add, Nat.zero_add]
    exact zr_areturn dArrays_copyOf_13 rfl (Or.inr ⟨_, rfl⟩) rfl ⟨rfl, f, rfl, fun j hj => rfl⟩
set_option maxHeartbeats 4000000 in
set_option maxRecDepth 100000 in
theorem c_Text_copyOfWords {G : zw_G} {c0 : zw_C} {r : zw_W} {wc len run : Nat} {tw : Nat → Int64} (hw : wc ≤ 20) : zw_Met G Y_Text_copyOfWords 2 1 wc [.ref 2] (c0 :: zk_Text wc len run :: zk_L 20 tw :: r) (fun v w2 => v = some (.ref (r.length + 4)) ∧ ∃ f2, w2 = c0 :: zk_Text wc len run :: zk_L 20 tw :: (r ++ [zk_L wc f2]) ∧ ∀ j, j < wc → f2 j = tw j) := by
  show zw_Z G Y_Text_copyOfWords _ _ _ 0 0 0 [some (.ref 2)] [] _
  refine zr_aload_n dText_copyOfWords_0 rfl rfl ?_
  refine zr_getf g_Text_9 dText_copyOfWords_1 rfl rfl ?_
  refine zr_aload_n dText_copyOfWords_4 rfl rfl ?_
  refine zr_getf g_Text_15 dText_copyOfWords_5 rfl rfl ?_
  refine zr_invS (c_Arrays_copyOf (i := 2) (by decide) hw rfl) m_Arrays_copyOf k_Text_39 (s_Arrays_copyOf) dText_copyOfWords_8 rfl (Nat.le_of_ble_eq_true rfl) ⟨Nat.le_of_ble_eq_true rfl, Nat.le_of_ble_eq_true rfl, Nat.le_of_ble_eq_true rfl, by show 0 + wc ≤ wc; omega⟩ (Nat.le_of_ble_eq_true rfl) rfl (fun v w2 hp => ?_)
  obtain ⟨rfl, f2, rfl, hf2⟩ := hp
  refine ⟨by simp, ?_⟩
  rw [Nat.zero_add, Nat.zero_add]
  exact zr_areturn dText_copyOfWords_11 rfl (Or.inr ⟨_, rfl⟩) rfl (⟨rfl, f2, rfl, hf2⟩)
end
section
/-! isId, isClass; Shelf: a document lies at q, its words at q + 1; a shelf at i, its rows at i + 1 and i + 2 -/
def zf_find (g : Nat → Option Nat) (id : Int32) : Option Nat := if ¬ id < 0 ∧ id < nI 32 then g id.toNatClampNeg else none
theorem zf_find_in {g : Nat → Option Nat} {j : Nat} (h : j < 32) : zf_find g (nI j) = g j := by
  unfold zf_find
  rw [if_pos ⟨nI_pos (by omega), nI_lt h (by decide)⟩, nI_clamp (by omega)]
theorem zf_find_out {g : Nat → Option Nat} {id : Int32} (h : ¬ (¬ id < 0 ∧ id < nI 32)) : zf_find g id = none := if_neg h
def zs_doc (w : zw_W) (r c n : Nat) (f : Nat → Int64) : Prop := ∃ q, r = q + 1 ∧ 39 ≤ q ∧ w[q]? = some (.inr (6, [.int (nI c), .ref (q + 2)])) ∧ w[q + 1]? = some (zk_L n f)
def zs_ok (w : zw_W) (g : Nat → Option Nat) (dc dn : Nat → Nat) (df : Nat → Nat → Int64) : Prop := ∀ id, id < 32 → ∀ r, g id = some r → zs_doc w r (dc id) (dn id) (df id) ∧ dn id ≤ 20 ∧ dc id < 4
abbrev zk_Sh (i : Nat) : zw_C := .inr (2, [.ref (i + 2), .ref (i + 3)])
theorem zs_doc.keep {w w2 : zw_W} {r c n : Nat} {f : Nat → Int64} (h : zs_doc w r c n f) (hw : ∀ j x, 39 ≤ j → w[j]? = some x → w2[j]? = some x) : zs_doc w2 r c n f := by
  obtain ⟨q, h1, h2, h3, h4⟩ := h
  exact ⟨q, h1, h2, hw _ _ h2 h3, hw _ _ (by omega) h4⟩
theorem zs_ok.keep {w w2 : zw_W} {g : Nat → Option Nat} {dc dn : Nat → Nat} {df : Nat → Nat → Int64} (h : zs_ok w g dc dn df) (hw : ∀ j x, 39 ≤ j → w[j]? = some x → w2[j]? = some x) : zs_ok w2 g dc dn df := fun id hid r hr => ⟨(h id hid r hr).1.keep hw, (h id hid r hr).2⟩
theorem zf_set39 {w : zw_W} {i : Nat} {x : zw_C} (h : i < 39) : ∀ j y, 39 ≤ j → w[j]? = some y → (w.set i x)[j]? = some y := fun j y hj hy => by rw [List.getElem?_set_ne (by omega)]; exact hy
theorem zf_upq {g1 g2 : Nat → Option Nat} {k : Nat} {x : Option Nat} (h : g2 k = x) : va_up (fun j => if j < k then g2 j else g1 j) k x = fun j => if j < k + 1 then g2 j else g1 j := by
  funext j
  show (if j = k then x else if j < k then g2 j else g1 j) = if j < k + 1 then g2 j else g1 j
  by_cases e : j = k
  · rw [if_pos e, if_pos (by omega), e, h]
  · rw [if_neg e]
    by_cases h2 : j < k
    · rw [if_pos h2, if_pos (by omega)]
    · rw [if_neg h2, if_neg (by omega)]
/-- a sum over the documents of a class -/
def zs_sum (g : Nat → Option Nat) (dc : Nat → Nat) (c : Nat) (v : Nat → Nat) (n : Nat) : Nat := wn_sum (fun id => if g id = none then 0 else if dc id = c then v id else 0) n
def zs_size (g : Nat → Option Nat) (n : Nat) : Nat := wn_sum (fun id => if g id = none then 0 else 1) n
theorem zs_size_n {g : Nat → Option Nat} {k : Nat} (h : g k = none) : zs_size g (k + 1) = zs_size g k := by unfold zs_size; rw [wn_sum, if_pos h, Nat.add_zero]
theorem zs_size_s {g : Nat → Option Nat} {k r : Nat} (h : g k = some r) : zs_size g (k + 1) = zs_size g k + 1 := by unfold zs_size; rw [wn_sum, if_neg (by rw [h]; exact fun q => by cases q)]
theorem zs_size_le {g : Nat → Option Nat} {n : Nat} : zs_size g n ≤ n := by
  have := wn_sum_le (h := fun id => if g id = none then 0 else 1) (b := 1) (n := n) (fun i _ => by split <;> omega)
  unfold zs_size
  omega
theorem zs_sum_n {g : Nat → Option Nat} {dc v : Nat → Nat} {c k : Nat} (h : g k = none) : zs_sum g dc c v (k + 1) = zs_sum g dc c v k := by unfold zs_sum; rw [wn_sum, if_pos h, Nat.add_zero]
theorem zs_sum_s {g : Nat → Option Nat} {dc v : Nat → Nat} {c k r : Nat} (h : g k = some r) (hc : dc k = c) : zs_sum g dc c v (k + 1) = zs_sum g dc c v k + v k := by unfold zs_sum; rw [wn_sum, if_neg (by rw [h]; exact fun q => by cases q), if_pos hc]
theorem zs_sum_o {g : Nat → Option Nat} {dc v : Nat → Nat} {c k r : Nat} (h : g k = some r) (hc : dc k ≠ c) : zs_sum g dc c v (k + 1) = zs_sum g dc c v k := by unfold zs_sum; rw [wn_sum, if_neg (by rw [h]; exact fun q => by cases q), if_neg hc, Nat.add_zero]
theorem zs_sum_le {g : Nat → Option Nat} {dc v : Nat → Nat} {c n b : Nat} (h : ∀ i, i < n → g i ≠ none → v i ≤ b) : zs_sum g dc c v n ≤ b * n := wn_sum_le (fun i hi => by
  split
  · exact Nat.zero_le _
  · rename_i hg
    split
    · exact h i hi hg
    · exact Nat.zero_le _)
set_option maxHeartbeats 4000000 in
set_option maxRecDepth 100000 in
theorem c_WE_isId {G : zw_G} {w : zw_W} {x : Int32} : zw_Met G Y_WE_isId 0 0 0 [.int x] (w) (zw_is (some (.int (zw_b (¬ x < 0 ∧ x < nI 32)))) w) := by
  show zw_Z G Y_WE_isId _ _ _ 0 0 0 [some (.int x)] [] _
  refine zr_iload_n dWE_isId_0 rfl ?_
  refine zr_if_lt (tgt := 14) dWE_isId_1 (by decide) (fun h1 => ?_) (fun h1 => ?_)
  · have hb : zw_b (¬ x < 0 ∧ x < nI 32) = 0 := zw_b0 (fun q => q.1 h1)
    refine zr_iconst (v := nI 0) dWE_isId_14 (by decide) ?_
    exact zr_ireturn dWE_isId_15 rfl rfl (⟨congrArg (fun x => some (Value.int x)) hb.symm, rfl⟩)
  · refine zr_iload_n dWE_isId_4 rfl ?_
    refine zr_bipush (v := nI 32) dWE_isId_5 (by decide) ?_
    refine zr_icmp_ge (tgt := 14) dWE_isId_7 (by decide) (fun h7 => ?_) (fun h7 => ?_)
    · have hb : zw_b (¬ x < 0 ∧ x < nI 32) = 0 := zw_b0 (fun q => Int32.not_le.mpr q.2 h7)
      refine zr_iconst (v := nI 0) dWE_isId_14 (by decide) ?_
      exact zr_ireturn dWE_isId_15 rfl rfl (⟨congrArg (fun x => some (Value.int x)) hb.symm, rfl⟩)
    · have hb : zw_b (¬ x < 0 ∧ x < nI 32) = 1 := zw_b1 ⟨h1, Int32.not_le.mp h7⟩
      refine zr_iconst (v := nI 1) dWE_isId_10 (by decide) ?_
      refine zr_goto (tgt := 15) dWE_isId_11 (by decide) ?_
      exact zr_ireturn dWE_isId_15 rfl rfl (⟨congrArg (fun x => some (Value.int x)) hb.symm, rfl⟩)
set_option maxHeartbeats 4000000 in
set_option maxRecDepth 100000 in
theorem c_WE_isClass {G : zw_G} {w : zw_W} {x : Int32} {i n : Nat} {fs : List Value} (hi : w[i]? = some (.inr (0, .int (nI n) :: fs))) : zw_Met G Y_WE_isClass 0 0 0 [.ref (i + 1), .int x] (w) (zw_is (some (.int (zw_b (¬ x < 0 ∧ x < nI n)))) w) := by
  show zw_Z G Y_WE_isClass _ _ _ 0 0 0 [some (.ref (i + 1)), some (.int x)] [] _
  refine zr_iload_n dWE_isClass_0 rfl ?_
  refine zr_if_lt (tgt := 16) dWE_isClass_1 (by decide) (fun h1 => ?_) (fun h1 => ?_)
  · have hb : zw_b (¬ x < 0 ∧ x < nI n) = 0 := zw_b0 (fun q => q.1 h1)
    refine zr_iconst (v := nI 0) dWE_isClass_16 (by decide) ?_
    exact zr_ireturn dWE_isClass_17 rfl rfl (⟨congrArg (fun x => some (Value.int x)) hb.symm, rfl⟩)
  · refine zr_iload_n dWE_isClass_4 rfl ?_
    refine zr_aload_n dWE_isClass_5 rfl rfl ?_
    refine zr_getf g_WE_49 dWE_isClass_6 hi rfl ?_
    refine zr_icmp_ge (tgt := 16) dWE_isClass_9 (by decide) (fun h9 => ?_) (fun h9 => ?_)
    · have hb : zw_b (¬ x < 0 ∧ x < nI n) = 0 := zw_b0 (fun q => Int32.not_le.mpr q.2 h9)
      refine zr_iconst (v := nI 0) dWE_isClass_16 (by decide) ?_
      exact zr_ireturn dWE_isClass_17 rfl rfl (⟨congrArg (fun x => some (Value.int x)) hb.symm, rfl⟩)
    · have hb : zw_b (¬ x < 0 ∧ x < nI n) = 1 := zw_b1 ⟨h1, Int32.not_le.mp h9⟩
      refine zr_iconst (v := nI 1) dWE_isClass_12 (by decide) ?_
      refine zr_goto (tgt := 17) dWE_isClass_13 (by decide) ?_
      exact zr_ireturn dWE_isClass_17 rfl rfl (⟨congrArg (fun x => some (Value.int x)) hb.symm, rfl⟩)
set_option maxHeartbeats 4000000 in
set_option maxRecDepth 100000 in
theorem c_Shelf_find {G : zw_G} {w : zw_W} {i : Nat} {g : Nat → Option Nat} (hs : w[i]? = some (zk_Sh i)) (hb : w[i + 1]? = some (zk_D 32 g)) {id : Int32} : zw_Met G Y_Shelf_find 1 0 0 [.ref (i + 1), .int id] (w) (zw_is (some (va_rf (zf_find g id))) w) := by
  show zw_Z G Y_Shelf_find _ _ _ 0 0 0 [some (.ref (i + 1)), some (.int id)] [] _
  refine zr_iload_n dShelf_find_0 rfl ?_
  refine zr_invS c_WE_isId m_WE_isId k_Shelf_21 (s_WE_isId) dShelf_find_1 rfl (Nat.le_of_ble_eq_true rfl) (by decide) (Nat.le_of_ble_eq_true rfl) rfl (fun v w2 hp => ?_)
  obtain ⟨rfl, rfl⟩ := hp
  refine ⟨rfl, ?_⟩
  refine zr_if_eqB (tgt := 16) dShelf_find_4 (by decide) (fun h4 => ?_) (fun h4 => ?_)
  · rw [zf_find_out h4]
    refine zr_null dShelf_find_16 ?_
    exact zr_areturn dShelf_find_17 rfl (Or.inl ⟨_, rfl⟩) rfl (⟨rfl, rfl⟩)
  · obtain ⟨j, hj, rfl⟩ := zf_rng (by decide) h4.1 h4.2
    rw [zf_find_in hj]
    refine zr_aload_n dShelf_find_7 rfl rfl ?_
    refine zr_getf g_Shelf_11 dShelf_find_8 hs rfl ?_
    refine zr_iload_n dShelf_find_11 rfl ?_
    refine zr_aald dShelf_find_12 hb (hj) (by decide) ?_
    rcases ho12 : g j with _ | r12
    · refine zr_goto (tgt := 17) dShelf_find_13 (by decide) ?_
      exact zr_areturn dShelf_find_17 rfl (Or.inl ⟨_, rfl⟩) rfl (⟨rfl, rfl⟩)
    · refine zr_goto (tgt := 17) dShelf_find_13 (by decide) ?_
      exact zr_areturn dShelf_find_17 rfl (Or.inl ⟨_, rfl⟩) rfl (⟨rfl, rfl⟩)
set_option maxHeartbeats 4000000 in
set_option maxRecDepth 100000 in
theorem c_Shelf_put_some {G : zw_G} {w : zw_W} {i : Nat} {g : Nat → Option Nat} (hs : w[i]? = some (zk_Sh i)) (hb : w[i + 1]? = some (zk_D 32 g)) {j : Nat} (hj : j < 32) {q : Nat} {vs : List Value} (hq : w[q]? = some (.inr (6, vs))) : zw_Met G Y_Shelf_put 1 0 0 [.ref (i + 1), .int (nI j), .ref (q + 1)] (w) (zw_is none (w.set (i + 1) (zk_D 32 (va_up g j (some (q + 1)))))) := by
  show zw_Z G Y_Shelf_put _ _ _ 0 0 0 [some (.ref (i + 1)), some (.int (nI j)), some (.ref (q + 1))] [] _
  refine zr_iload_n dShelf_put_0 rfl ?_
  refine zr_invS c_WE_isId m_WE_isId k_Shelf_21 (s_WE_isId) dShelf_put_1 rfl (Nat.le_of_ble_eq_true rfl) (by decide) (Nat.le_of_ble_eq_true rfl) rfl (fun v w2 hp => ?_)
  obtain ⟨rfl, rfl⟩ := hp
  refine ⟨rfl, ?_⟩
  refine zr_if_eqB (tgt := 14) dShelf_put_4 (by decide) (fun h4 => ?_) (fun h4 => ?_)
  · exact absurd ⟨nI_pos (by omega), nI_lt hj (by decide)⟩ h4
  · refine zr_aload_n dShelf_put_7 rfl rfl ?_
    refine zr_getf g_Shelf_11 dShelf_put_8 hs rfl ?_
    refine zr_iload_n dShelf_put_11 rfl ?_
    refine zr_aload_n dShelf_put_12 rfl rfl ?_
    refine zr_aast dShelf_put_13 hb (hj) (by decide) hq rfl ?_
    exact zr_return dShelf_put_14 rfl (⟨rfl, rfl⟩)
set_option maxHeartbeats 4000000 in
set_option maxRecDepth 100000 in
theorem c_Shelf_put_none {G : zw_G} {w : zw_W} {i : Nat} {g : Nat → Option Nat} (hs : w[i]? = some (zk_Sh i)) (hb : w[i + 1]? = some (zk_D 32 g)) {j : Nat} (hj : j < 32) : zw_Met G Y_Shelf_put 1 0 0 [.ref (i + 1), .int (nI j), .null] (w) (zw_is none (w.set (i + 1) (zk_D 32 (va_up g j (none))))) := by
  show zw_Z G Y_Shelf_put _ _ _ 0 0 0 [some (.ref (i + 1)), some (.int (nI j)), some (.null)] [] _
  refine zr_iload_n dShelf_put_0 rfl ?_
  refine zr_invS c_WE_isId m_WE_isId k_Shelf_21 (s_WE_isId) dShelf_put_1 rfl (Nat.le_of_ble_eq_true rfl) (by decide) (Nat.le_of_ble_eq_true rfl) rfl (fun v w2 hp => ?_)
  obtain ⟨rfl, rfl⟩ := hp
  refine ⟨rfl, ?_⟩
  refine zr_if_eqB (tgt := 14) dShelf_put_4 (by decide) (fun h4 => ?_) (fun h4 => ?_)
  · exact absurd ⟨nI_pos (by omega), nI_lt hj (by decide)⟩ h4
  · refine zr_aload_n dShelf_put_7 rfl rfl ?_
    refine zr_getf g_Shelf_11 dShelf_put_8 hs rfl ?_
    refine zr_iload_n dShelf_put_11 rfl ?_
    refine zr_aload_n dShelf_put_12 rfl rfl ?_
    refine zr_aastN dShelf_put_13 hb (hj) (by decide) ?_
    exact zr_return dShelf_put_14 rfl (⟨rfl, rfl⟩)
set_option maxHeartbeats 4000000 in
set_option maxRecDepth 100000 in
theorem c_Shelf_copyFrom {G : zw_G} {w : zw_W} {i : Nat} {g : Nat → Option Nat} (hs : w[i]? = some (zk_Sh i)) (hb : w[i + 1]? = some (zk_D 32 g)) {i2 : Nat} {g2 : Nat → Option Nat} (hs2 : w[i2]? = some (zk_Sh i2)) (hb2 : w[i2 + 1]? = some (zk_D 32 g2)) (hne : i + 1 < i2 ∨ i2 + 1 < i) (hi : i + 1 < 39) (hd : ∀ id, id < 32 → ∀ r, g2 id = some r → ∃ q vs, r = q + 1 ∧ 39 ≤ q ∧ w[q]? = some (.inr (6, vs))) : zw_Met G Y_Shelf_copyFrom 0 0 0 [.ref (i + 1), .ref (i2 + 1)] w (zw_is none (w.set (i + 1) (zk_D 32 (fun j => if j < 32 then g2 j else g j)))) := by
  have hl : i + 1 < w.length := (List.getElem?_eq_some_iff.mp hb).1
  have key : ∀ k, k ≤ 32 → zw_Z G Y_Shelf_copyFrom (zw_R 0 0 0) (fun _ => True) (zw_Q G 0 0 (zw_is none (w.set (i + 1) (zk_D 32 (fun j => if j < 32 then g2 j else g j))))) 0 0 2 [some (.ref (i + 1)), some (.ref (i2 + 1)), some (.int (nI k))] [] (w.set (i + 1) (zk_D 32 (fun j => if j < k then g2 j else g j))) := by
    refine wz_up 32 (fun k hk ih => ?_) ?_
    · refine zr_iload_n dShelf_copyFrom_2 rfl ?_
      refine zr_bipush (v := nI 32) dShelf_copyFrom_3 (by decide) ?_
      refine zr_icmp_geN (tgt := 26) (by omega) (by omega) dShelf_copyFrom_5 (by decide) (fun h5 => ?_) (fun h5 => ?_)
      · exfalso; omega
      · refine zr_aload_n dShelf_copyFrom_8 rfl rfl ?_
        refine zr_getf g_Shelf_11 dShelf_copyFrom_9 (by rw [List.getElem?_set_ne (by omega)]; exact hs) rfl ?_
        refine zr_iload_n dShelf_copyFrom_12 rfl ?_
        refine zr_aload_n dShelf_copyFrom_13 rfl rfl ?_
        refine zr_getf g_Shelf_11 dShelf_copyFrom_14 (by rw [List.getElem?_set_ne (by omega)]; exact hs2) rfl ?_
        refine zr_iload_n dShelf_copyFrom_17 rfl ?_
        refine zr_aald dShelf_copyFrom_18 (by rw [List.getElem?_set_ne (by omega)]; exact hb2) (hk) (by decide) ?_
        rcases ho18 : g2 k with _ | r18
        · refine zr_aastN dShelf_copyFrom_19 (List.getElem?_set_self hl) (hk) (by decide) ?_
          rw [List.set_set, zf_upq ho18]
          refine zr_iinc (v := nI (_ + 1)) dShelf_copyFrom_20 rfl (nI_1 _) (by decide) ?_
          refine zr_goto (tgt := 2) dShelf_copyFrom_23 (by decide) ?_
          exact ih
        · obtain ⟨q, vs, rfl, hq1, hq2⟩ := hd k hk r18 ho18
          refine zr_aast dShelf_copyFrom_19 (List.getElem?_set_self hl) (hk) (by decide) (by rw [List.getElem?_set_ne (by omega)]; exact hq2) rfl ?_
          rw [List.set_set, zf_upq ho18]
          refine zr_iinc (v := nI (_ + 1)) dShelf_copyFrom_20 rfl (nI_1 _) (by decide) ?_
          refine zr_goto (tgt := 2) dShelf_copyFrom_23 (by decide) ?_
          exact ih
    · refine zr_iload_n dShelf_copyFrom_2 rfl ?_
      refine zr_bipush (v := nI 32) dShelf_copyFrom_3 (by decide) ?_
      refine zr_icmp_geN (tgt := 26) (by omega) (by omega) dShelf_copyFrom_5 (by decide) (fun h5 => ?_) (fun h5 => ?_)
      · exact zr_return dShelf_copyFrom_26 rfl (⟨rfl, rfl⟩)
      · exfalso; omega
  show zw_Z G Y_Shelf_copyFrom _ _ _ 0 0 0 [some (.ref (i + 1)), some (.ref (i2 + 1)), none] [] _
  refine zr_iconst (v := nI 0) dShelf_copyFrom_0 (by decide) ?_
  refine zr_istore_n dShelf_copyFrom_1 (by decide) ?_
  have e : w = w.set (i + 1) (zk_D 32 (fun j => if j < 0 then g2 j else g j)) := by
    rw [show (fun j => if j < 0 then g2 j else g j) = g from funext fun j => if_neg (Nat.not_lt_zero j)]
    exact zf_setself hb
  refine zr_wld e ?_
  exact key 0 (Nat.zero_le 32)
set_option maxHeartbeats 4000000 in
set_option maxRecDepth 100000 in
theorem c_Shelf_size {G : zw_G} {w : zw_W} {i : Nat} {g : Nat → Option Nat} (hs : w[i]? = some (zk_Sh i)) (hb : w[i + 1]? = some (zk_D 32 g)) : zw_Met G Y_Shelf_size 0 0 0 [.ref (i + 1)] w (zw_is (some (.int (nI (zs_size g 32)))) w) := by
  have key : ∀ k, k ≤ 32 → zw_Z G Y_Shelf_size (zw_R 0 0 0) (fun _ => True) (zw_Q G 0 0 (zw_is (some (.int (nI (zs_size g 32)))) w)) 0 0 13 [some (.ref (i + 1)), some (.int (nI (zs_size g k))), some (.ref (i + 2)), some (.int (nI 32)), some (.int (nI k)), none] [] w := by
    refine wz_up 32 (fun k hk ih => ?_) ?_
    · refine zr_iload dShelf_size_13 rfl ?_
      refine zr_iload_n dShelf_size_15 rfl ?_
      refine zr_icmp_geN (tgt := 39) (by omega) (by omega) dShelf_size_16 (by decide) (fun h16 => ?_) (fun h16 => ?_)
      · exfalso; omega
      · refine zr_aload_n dShelf_size_19 rfl rfl ?_
        refine zr_iload dShelf_size_20 rfl ?_
        refine zr_aald dShelf_size_22 hb (hk) (by decide) ?_
        rcases ho22 : g k with _ | r22
        · rw [zs_size_n ho22] at ih
          refine zr_astore dShelf_size_23 (by decide) rfl ?_
          refine zr_aload dShelf_size_25 rfl rfl ?_
          refine zr_ifnullN (tgt := 33) dShelf_size_27 (by decide) ?_
          refine zr_iinc (v := nI (k + 1)) dShelf_size_33 rfl (nI_1 _) (by decide) ?_
          refine zr_goto (tgt := 13) dShelf_size_36 (by decide) ?_
          exact zr_mask [true, true, true, true, true, false] ih
        · rw [zs_size_s ho22] at ih
          refine zr_astore dShelf_size_23 (by decide) rfl ?_
          refine zr_aload dShelf_size_25 rfl rfl ?_
          refine zr_ifnull dShelf_size_27 ?_
          refine zr_iinc (v := nI (zs_size g k + 1)) dShelf_size_30 rfl (nI_1 _) (by decide) ?_
          refine zr_iinc (v := nI (k + 1)) dShelf_size_33 rfl (nI_1 _) (by decide) ?_
          refine zr_goto (tgt := 13) dShelf_size_36 (by decide) ?_
          exact zr_mask [true, true, true, true, true, false] ih
    · refine zr_iload dShelf_size_13 rfl ?_
      refine zr_iload_n dShelf_size_15 rfl ?_
      refine zr_icmp_geN (tgt := 39) (by omega) (by omega) dShelf_size_16 (by decide) (fun h16 => ?_) (fun h16 => ?_)
      · refine zr_iload_n dShelf_size_39 rfl ?_
        exact zr_ireturn dShelf_size_40 rfl rfl (⟨rfl, rfl⟩)
      · exfalso; omega
  show zw_Z G Y_Shelf_size _ _ _ 0 0 0 [some (.ref (i + 1)), none, none, none, none, none] [] _
  refine zr_iconst (v := nI 0) dShelf_size_0 (by decide) ?_
  refine zr_istore_n dShelf_size_1 (by decide) ?_
  refine zr_aload_n dShelf_size_2 rfl rfl ?_
  refine zr_getf g_Shelf_11 dShelf_size_3 hs rfl ?_
  refine zr_astore_n dShelf_size_6 (by decide) rfl ?_
  refine zr_aload_n dShelf_size_7 rfl rfl ?_
  refine zr_alen dShelf_size_8 hb (by decide) rfl ?_
  refine zr_istore_n dShelf_size_9 (by decide) ?_
  refine zr_iconst (v := nI 0) dShelf_size_10 (by decide) ?_
  refine zr_istore dShelf_size_11 (by decide) ?_
  exact key 0 (Nat.zero_le 32)
set_option maxHeartbeats 4000000 in
set_option maxRecDepth 100000 in
theorem c_Shelf_documentsOf {G : zw_G} {w : zw_W} {i : Nat} {g : Nat → Option Nat} (hs : w[i]? = some (zk_Sh i)) (hb : w[i + 1]? = some (zk_D 32 g)) {dc dn : Nat → Nat} {df : Nat → Nat → Int64} {c : Nat} (hok : zs_ok w g dc dn df) (hc : c < 4) : zw_Met G Y_Shelf_documentsOf 0 0 0 [.ref (i + 1), .int (nI c)] w (zw_is (some (.int (nI (zs_sum g dc c (fun _ => 1) 32)))) w) := by
  have key : ∀ k, k ≤ 32 → zw_Z G Y_Shelf_documentsOf (zw_R 0 0 0) (fun _ => True) (zw_Q G 0 0 (zw_is (some (.int (nI (zs_sum g dc c (fun _ => 1) 32)))) w)) 0 0 14 [some (.ref (i + 1)), some (.int (nI c)), some (.int (nI (zs_sum g dc c (fun _ => 1) k))), some (.ref (i + 2)), some (.int (nI 32)), some (.int (nI k)), none] [] w := by
    refine wz_up 32 (fun k hk ih => ?_) ?_
    · refine zr_iload dShelf_documentsOf_14 rfl ?_
      refine zr_iload dShelf_documentsOf_16 rfl ?_
      refine zr_icmp_geN (tgt := 50) (by omega) (by omega) dShelf_documentsOf_18 (by decide) (fun h18 => ?_) (fun h18 => ?_)
      · exfalso; omega
      · refine zr_aload_n dShelf_documentsOf_21 rfl rfl ?_
        refine zr_iload dShelf_documentsOf_22 rfl ?_
        refine zr_aald dShelf_documentsOf_24 hb (hk) (by decide) ?_
        rcases ho24 : g k with _ | r24
        · rw [zs_sum_n ho24] at ih
          refine zr_astore dShelf_documentsOf_25 (by decide) rfl ?_
          refine zr_aload dShelf_documentsOf_27 rfl rfl ?_
          refine zr_ifnullN (tgt := 44) dShelf_documentsOf_29 (by decide) ?_
          refine zr_iinc (v := nI (k + 1)) dShelf_documentsOf_44 rfl (nI_1 _) (by decide) ?_
          refine zr_goto (tgt := 14) dShelf_documentsOf_47 (by decide) ?_
          exact zr_mask [true, true, true, true, true, true, false] ih
        · obtain ⟨⟨q, rfl, hq0, hq1, hq2⟩, hq3, hq4⟩ := hok k hk r24 ho24
          refine zr_astore dShelf_documentsOf_25 (by decide) rfl ?_
          refine zr_aload dShelf_documentsOf_27 rfl rfl ?_
          refine zr_ifnull dShelf_documentsOf_29 ?_
          refine zr_aload dShelf_documentsOf_32 rfl rfl ?_
          refine zr_getf g_Shelf_25 dShelf_documentsOf_34 hq1 rfl ?_
          refine zr_iload_n dShelf_documentsOf_37 rfl ?_
          refine zr_icmp_neN (tgt := 44) (by omega) (by omega) dShelf_documentsOf_38 (by decide) (fun h38 => ?_) (fun h38 => ?_)
          · rw [zs_sum_o ho24 h38] at ih
            refine zr_iinc (v := nI (k + 1)) dShelf_documentsOf_44 rfl (nI_1 _) (by decide) ?_
            refine zr_goto (tgt := 14) dShelf_documentsOf_47 (by decide) ?_
            exact zr_mask [true, true, true, true, true, true, false] ih
          · rw [zs_sum_s ho24 h38] at ih
            refine zr_iinc (v := nI (zs_sum g dc c (fun _ => 1) k + 1)) dShelf_documentsOf_41 rfl (nI_1 _) (by decide) ?_
            refine zr_iinc (v := nI (k + 1)) dShelf_documentsOf_44 rfl (nI_1 _) (by decide) ?_
            refine zr_goto (tgt := 14) dShelf_documentsOf_47 (by decide) ?_
            exact zr_mask [true, true, true, true, true, true, false] ih
    · refine zr_iload dShelf_documentsOf_14 rfl ?_
      refine zr_iload dShelf_documentsOf_16 rfl ?_
      refine zr_icmp_geN (tgt := 50) (by omega) (by omega) dShelf_documentsOf_18 (by decide) (fun h18 => ?_) (fun h18 => ?_)
      · refine zr_iload_n dShelf_documentsOf_50 rfl ?_
        exact zr_ireturn dShelf_documentsOf_51 rfl rfl (⟨rfl, rfl⟩)
      · exfalso; omega
  show zw_Z G Y_Shelf_documentsOf _ _ _ 0 0 0 [some (.ref (i + 1)), some (.int (nI c)), none, none, none, none, none] [] _
  refine zr_iconst (v := nI 0) dShelf_documentsOf_0 (by decide) ?_
  refine zr_istore_n dShelf_documentsOf_1 (by decide) ?_
  refine zr_aload_n dShelf_documentsOf_2 rfl rfl ?_
  refine zr_getf g_Shelf_11 dShelf_documentsOf_3 hs rfl ?_
  refine zr_astore_n dShelf_documentsOf_6 (by decide) rfl ?_
  refine zr_aload_n dShelf_documentsOf_7 rfl rfl ?_
  refine zr_alen dShelf_documentsOf_8 hb (by decide) rfl ?_
  refine zr_istore dShelf_documentsOf_9 (by decide) ?_
  refine zr_iconst (v := nI 0) dShelf_documentsOf_11 (by decide) ?_
  refine zr_istore dShelf_documentsOf_12 (by decide) ?_
  exact key 0 (Nat.zero_le 32)
set_option maxHeartbeats 4000000 in
set_option maxRecDepth 100000 in
theorem c_Shelf_wordsOf {G : zw_G} {w : zw_W} {i : Nat} {g : Nat → Option Nat} (hs : w[i]? = some (zk_Sh i)) (hb : w[i + 1]? = some (zk_D 32 g)) {dc dn : Nat → Nat} {df : Nat → Nat → Int64} {c : Nat} (hok : zs_ok w g dc dn df) (hc : c < 4) : zw_Met G Y_Shelf_wordsOf 0 0 0 [.ref (i + 1), .int (nI c)] w (zw_is (some (.int (nI (zs_sum g dc c dn 32)))) w) := by
  have key : ∀ k, k ≤ 32 → zw_Z G Y_Shelf_wordsOf (zw_R 0 0 0) (fun _ => True) (zw_Q G 0 0 (zw_is (some (.int (nI (zs_sum g dc c dn 32)))) w)) 0 0 14 [some (.ref (i + 1)), some (.int (nI c)), some (.int (nI (zs_sum g dc c dn k))), some (.ref (i + 2)), some (.int (nI 32)), some (.int (nI k)), none] [] w := by
    refine wz_up 32 (fun k hk ih => ?_) ?_
    · refine zr_iload dShelf_wordsOf_14 rfl ?_
      refine zr_iload dShelf_wordsOf_16 rfl ?_
      refine zr_icmp_geN (tgt := 56) (by omega) (by omega) dShelf_wordsOf_18 (by decide) (fun h18 => ?_) (fun h18 => ?_)
      · exfalso; omega
      · refine zr_aload_n dShelf_wordsOf_21 rfl rfl ?_
        refine zr_iload dShelf_wordsOf_22 rfl ?_
        refine zr_aald dShelf_wordsOf_24 hb (hk) (by decide) ?_
        rcases ho24 : g k with _ | r24
        · rw [zs_sum_n ho24] at ih
          refine zr_astore dShelf_wordsOf_25 (by decide) rfl ?_
          refine zr_aload dShelf_wordsOf_27 rfl rfl ?_
          refine zr_ifnullN (tgt := 50) dShelf_wordsOf_29 (by decide) ?_
          refine zr_iinc (v := nI (k + 1)) dShelf_wordsOf_50 rfl (nI_1 _) (by decide) ?_
          refine zr_goto (tgt := 14) dShelf_wordsOf_53 (by decide) ?_
          exact zr_mask [true, true, true, true, true, true, false] ih
        · obtain ⟨⟨q, rfl, hq0, hq1, hq2⟩, hq3, hq4⟩ := hok k hk r24 ho24
          refine zr_astore dShelf_wordsOf_25 (by decide) rfl ?_
          refine zr_aload dShelf_wordsOf_27 rfl rfl ?_
          refine zr_ifnull dShelf_wordsOf_29 ?_
          refine zr_aload dShelf_wordsOf_32 rfl rfl ?_
          refine zr_getf g_Shelf_25 dShelf_wordsOf_34 hq1 rfl ?_
          refine zr_iload_n dShelf_wordsOf_37 rfl ?_
          refine zr_icmp_neN (tgt := 50) (by omega) (by omega) dShelf_wordsOf_38 (by decide) (fun h38 => ?_) (fun h38 => ?_)
          · rw [zs_sum_o ho24 h38] at ih
            refine zr_iinc (v := nI (k + 1)) dShelf_wordsOf_50 rfl (nI_1 _) (by decide) ?_
            refine zr_goto (tgt := 14) dShelf_wordsOf_53 (by decide) ?_
            exact zr_mask [true, true, true, true, true, true, false] ih
          · rw [zs_sum_s ho24 h38] at ih
            refine zr_iload_n dShelf_wordsOf_41 rfl ?_
            refine zr_aload dShelf_wordsOf_42 rfl rfl ?_
            refine zr_getf g_Shelf_29 dShelf_wordsOf_44 hq1 rfl ?_
            refine zr_alen dShelf_wordsOf_47 hq2 (by decide) rfl ?_
            refine zr_iaddN dShelf_wordsOf_48 ?_
            refine zr_istore_n dShelf_wordsOf_49 (by decide) ?_
            refine zr_iinc (v := nI (k + 1)) dShelf_wordsOf_50 rfl (nI_1 _) (by decide) ?_
            refine zr_goto (tgt := 14) dShelf_wordsOf_53 (by decide) ?_
            exact zr_mask [true, true, true, true, true, true, false] ih
    · refine zr_iload dShelf_wordsOf_14 rfl ?_
      refine zr_iload dShelf_wordsOf_16 rfl ?_
      refine zr_icmp_geN (tgt := 56) (by omega) (by omega) dShelf_wordsOf_18 (by decide) (fun h18 => ?_) (fun h18 => ?_)
      · refine zr_iload_n dShelf_wordsOf_56 rfl ?_
        exact zr_ireturn dShelf_wordsOf_57 rfl rfl (⟨rfl, rfl⟩)
      · exfalso; omega
  show zw_Z G Y_Shelf_wordsOf _ _ _ 0 0 0 [some (.ref (i + 1)), some (.int (nI c)), none, none, none, none, none] [] _
  refine zr_iconst (v := nI 0) dShelf_wordsOf_0 (by decide) ?_
  refine zr_istore_n dShelf_wordsOf_1 (by decide) ?_
  refine zr_aload_n dShelf_wordsOf_2 rfl rfl ?_
  refine zr_getf g_Shelf_11 dShelf_wordsOf_3 hs rfl ?_
  refine zr_astore_n dShelf_wordsOf_6 (by decide) rfl ?_
  refine zr_aload_n dShelf_wordsOf_7 rfl rfl ?_
  refine zr_alen dShelf_wordsOf_8 hb (by decide) rfl ?_
  refine zr_istore dShelf_wordsOf_9 (by decide) ?_
  refine zr_iconst (v := nI 0) dShelf_wordsOf_11 (by decide) ?_
  refine zr_istore dShelf_wordsOf_12 (by decide) ?_
  exact key 0 (Nat.zero_le 32)
set_option maxHeartbeats 4000000 in
set_option maxRecDepth 100000 in
theorem c_Shelf_timesOf {G : zw_G} {w : zw_W} {i : Nat} {g : Nat → Option Nat} (hs : w[i]? = some (zk_Sh i)) (hb : w[i + 1]? = some (zk_D 32 g)) {dc dn : Nat → Nat} {df : Nat → Nat → Int64} {c : Nat} (hok : zs_ok w g dc dn df) (hc : c < 4) {x : Int64} : zw_Met G Y_Shelf_timesOf 1 0 0 [.ref (i + 1), .int (nI c), .long x] w (zw_is (some (.int (nI (zs_sum g dc c (fun id => wn_sum (fun j => if df id j = x then 1 else 0) (dn id)) 32)))) w) := by
  have key : ∀ k, k ≤ 32 → zw_Z G Y_Shelf_timesOf (zw_R 1 0 0) (fun _ => True) (zw_Q G 0 0 (zw_is (some (.int (nI (zs_sum g dc c (fun id => wn_sum (fun j => if df id j = x then 1 else 0) (dn id)) 32)))) w)) 0 0 17 [some (.ref (i + 1)), some (.int (nI c)), some (.long x), none, some (.int (nI (zs_sum g dc c (fun id => wn_sum (fun j => if df id j = x then 1 else 0) (dn id)) k))), some (.ref (i + 2)), some (.int (nI 32)), some (.int (nI k)), none] [] w := by
    refine wz_up 32 (fun k hk ih => ?_) ?_
    · refine zr_iload dShelf_timesOf_17 rfl ?_
      refine zr_iload dShelf_timesOf_19 rfl ?_
      refine zr_icmp_geN (tgt := 62) (by omega) (by omega) dShelf_timesOf_21 (by decide) (fun h21 => ?_) (fun h21 => ?_)
      · exfalso; omega
      · refine zr_aload dShelf_timesOf_24 rfl rfl ?_
        refine zr_iload dShelf_timesOf_26 rfl ?_
        refine zr_aald dShelf_timesOf_28 hb (hk) (by decide) ?_
        rcases ho28 : g k with _ | r28
        · rw [zs_sum_n ho28] at ih
          refine zr_astore dShelf_timesOf_29 (by decide) rfl ?_
          refine zr_aload dShelf_timesOf_31 rfl rfl ?_
          refine zr_ifnullN (tgt := 56) dShelf_timesOf_33 (by decide) ?_
          refine zr_iinc (v := nI (k + 1)) dShelf_timesOf_56 rfl (nI_1 _) (by decide) ?_
          refine zr_goto (tgt := 17) dShelf_timesOf_59 (by decide) ?_
          exact zr_mask [true, true, true, true, true, true, true, true, false] ih
        · obtain ⟨⟨q, rfl, hq0, hq1, hq2⟩, hq3, hq4⟩ := hok k hk r28 ho28
          refine zr_astore dShelf_timesOf_29 (by decide) rfl ?_
          refine zr_aload dShelf_timesOf_31 rfl rfl ?_
          refine zr_ifnull dShelf_timesOf_33 ?_
          refine zr_aload dShelf_timesOf_36 rfl rfl ?_
          refine zr_getf g_Shelf_25 dShelf_timesOf_38 hq1 rfl ?_
          refine zr_iload_n dShelf_timesOf_41 rfl ?_
          refine zr_icmp_neN (tgt := 56) (by omega) (by omega) dShelf_timesOf_42 (by decide) (fun h42 => ?_) (fun h42 => ?_)
          · rw [zs_sum_o ho28 h42] at ih
            refine zr_iinc (v := nI (k + 1)) dShelf_timesOf_56 rfl (nI_1 _) (by decide) ?_
            refine zr_goto (tgt := 17) dShelf_timesOf_59 (by decide) ?_
            exact zr_mask [true, true, true, true, true, true, true, true, false] ih
          · rw [zs_sum_s ho28 h42] at ih
            refine zr_iload dShelf_timesOf_45 rfl ?_
            refine zr_aload dShelf_timesOf_47 rfl rfl ?_
            refine zr_lload_n dShelf_timesOf_49 rfl ?_
            refine zr_invV (c_Document_timesOf (by omega) hq1 hq2) m_Document_timesOf k_Shelf_32 v_Document_timesOf rfl hq1 dShelf_timesOf_50 rfl (Nat.le_of_ble_eq_true rfl) (by decide) (Nat.le_of_ble_eq_true rfl) rfl (fun v w2 hp => ?_)
            obtain ⟨rfl, rfl⟩ := hp
            refine ⟨rfl, ?_⟩
            refine zr_iaddN dShelf_timesOf_53 ?_
            refine zr_istore dShelf_timesOf_54 (by decide) ?_
            refine zr_iinc (v := nI (k + 1)) dShelf_timesOf_56 rfl (nI_1 _) (by decide) ?_
            refine zr_goto (tgt := 17) dShelf_timesOf_59 (by decide) ?_
            exact zr_mask [true, true, true, true, true, true, true, true, false] ih
    · refine zr_iload dShelf_timesOf_17 rfl ?_
      refine zr_iload dShelf_timesOf_19 rfl ?_
      refine zr_icmp_geN (tgt := 62) (by omega) (by omega) dShelf_timesOf_21 (by decide) (fun h21 => ?_) (fun h21 => ?_)
      · refine zr_iload dShelf_timesOf_62 rfl ?_
        exact zr_ireturn dShelf_timesOf_64 rfl rfl (⟨rfl, rfl⟩)
      · exfalso; omega
  show zw_Z G Y_Shelf_timesOf _ _ _ 0 0 0 [some (.ref (i + 1)), some (.int (nI c)), some (.long x), none, none, none, none, none, none] [] _
  refine zr_iconst (v := nI 0) dShelf_timesOf_0 (by decide) ?_
  refine zr_istore dShelf_timesOf_1 (by decide) ?_
  refine zr_aload_n dShelf_timesOf_3 rfl rfl ?_
  refine zr_getf g_Shelf_11 dShelf_timesOf_4 hs rfl ?_
  refine zr_astore dShelf_timesOf_7 (by decide) rfl ?_
  refine zr_aload dShelf_timesOf_9 rfl rfl ?_
  refine zr_alen dShelf_timesOf_11 hb (by decide) rfl ?_
  refine zr_istore dShelf_timesOf_12 (by decide) ?_
  refine zr_iconst (v := nI 0) dShelf_timesOf_14 (by decide) ?_
  refine zr_istore dShelf_timesOf_15 (by decide) ?_
  exact key 0 (Nat.zero_le 32)
end
section
/-! the vocabulary: g which ids have a document, dn how many words, df the words as numbers -/
/-- x stands ahead of the place (id, k) -/
def zv_occ {α : Type} (g : Nat → Prop) (dn : Nat → Nat) (df : Nat → Nat → α) (id k : Nat) (x : α) : Prop := ∃ d j, g d ∧ ((d < id ∧ j < dn d) ∨ (d = id ∧ j < k)) ∧ df d j = x
noncomputable def zv_n {α : Type} (g : Nat → Prop) (dn : Nat → Nat) (df : Nat → Nat → α) (id k : Nat) : Nat := @ite Nat (zv_occ g dn df id k (df id k)) (Classical.propDecidable _) 0 1
noncomputable def zv_row {α : Type} (g : Nat → Prop) (dn : Nat → Nat) (df : Nat → Nat → α) (id : Nat) : Nat := @ite Nat (g id) (Classical.propDecidable _) (wn_sum (fun j => zv_n g dn df id j) (dn id)) 0
noncomputable def zv_cnt {α : Type} (g : Nat → Prop) (dn : Nat → Nat) (df : Nat → Nat → α) (id k : Nat) : Nat := wn_sum (fun d => zv_row g dn df d) id + wn_sum (fun j => zv_n g dn df id j) k
theorem zv_n_0 {α : Type} {g : Nat → Prop} {dn : Nat → Nat} {df : Nat → Nat → α} {id k : Nat} (h : zv_occ g dn df id k (df id k)) : zv_n g dn df id k = 0 := by unfold zv_n; exact if_pos h
theorem zv_n_1 {α : Type} {g : Nat → Prop} {dn : Nat → Nat} {df : Nat → Nat → α} {id k : Nat} (h : ¬ zv_occ g dn df id k (df id k)) : zv_n g dn df id k = 1 := by unfold zv_n; exact if_neg h
theorem zv_n_le {α : Type} {g : Nat → Prop} {dn : Nat → Nat} {df : Nat → Nat → α} {id k : Nat} : zv_n g dn df id k ≤ 1 := by
  by_cases h : zv_occ g dn df id k (df id k)
  · rw [zv_n_0 h]; omega
  · rw [zv_n_1 h]; omega
theorem zv_row_0 {α : Type} {g : Nat → Prop} {dn : Nat → Nat} {df : Nat → Nat → α} {id : Nat} (h : ¬ g id) : zv_row g dn df id = 0 := by unfold zv_row; exact if_neg h
theorem zv_row_1 {α : Type} {g : Nat → Prop} {dn : Nat → Nat} {df : Nat → Nat → α} {id : Nat} (h : g id) : zv_row g dn df id = wn_sum (fun j => zv_n g dn df id j) (dn id) := by unfold zv_row; exact if_pos h
theorem zv_cnt_k {α : Type} {g : Nat → Prop} {dn : Nat → Nat} {df : Nat → Nat → α} {id k : Nat} : zv_cnt g dn df id (k + 1) = zv_cnt g dn df id k + zv_n g dn df id k := by
  unfold zv_cnt
  rw [wn_sum]
  omega
theorem zv_cnt_id {α : Type} {g : Nat → Prop} {dn : Nat → Nat} {df : Nat → Nat → α} {id : Nat} (h : g id) : zv_cnt g dn df (id + 1) 0 = zv_cnt g dn df id (dn id) := by
  unfold zv_cnt
  show wn_sum (fun d => zv_row g dn df d) id + zv_row g dn df id + 0 = _
  rw [zv_row_1 h]
  rfl
theorem zv_cnt_id0 {α : Type} {g : Nat → Prop} {dn : Nat → Nat} {df : Nat → Nat → α} {id : Nat} (h : ¬ g id) : zv_cnt g dn df (id + 1) 0 = zv_cnt g dn df id 0 := by
  unfold zv_cnt
  show wn_sum (fun d => zv_row g dn df d) id + zv_row g dn df id + 0 = _
  rw [zv_row_0 h]
  rfl
/-- how many words in all, ahead of id -/
def zv_tot (g : Nat → Option Nat) (dn : Nat → Nat) (n : Nat) : Nat := wn_sum (fun d => if g d = none then 0 else dn d) n
theorem zv_cnt_le {α : Type} {g : Nat → Option Nat} {dn : Nat → Nat} {df : Nat → Nat → α} {id k : Nat} : zv_cnt (fun d => g d ≠ none) dn df id k ≤ zv_tot g dn id + k := by
  unfold zv_cnt zv_tot
  have h1 : wn_sum (fun j => zv_n (fun d => g d ≠ none) dn df id j) k ≤ 1 * k := wn_sum_le (fun i _ => zv_n_le)
  have h2 : wn_sum (fun d => zv_row (fun d => g d ≠ none) dn df d) id ≤ wn_sum (fun d => if g d = none then 0 else dn d) id := wn_sum_leS (fun i _ => by
    by_cases h : g i = none
    · rw [zv_row_0 (fun q => q h), if_pos h]
      exact Nat.le_refl _
    · rw [zv_row_1 h, if_neg h]
      have := wn_sum_le (h := fun j => zv_n (fun d => g d ≠ none) dn df i j) (b := 1) (n := dn i) (fun j _ => zv_n_le)
      omega)
  omega
/-- the class's picture: m words seen, in sn, ahead of (id, k) -/
def zv_inv (g : Nat → Option Nat) (dn : Nat → Nat) (df : Nat → Nat → Int64) (id k m : Nat) (sn : Nat → Int64) : Prop := m = zv_cnt (fun d => g d ≠ none) dn df id k ∧ ∀ x, (∃ i, i < m ∧ sn i = x) ↔ zv_occ (fun d => g d ≠ none) dn df id k x
theorem zv_occ_k {α : Type} {g : Nat → Prop} {dn : Nat → Nat} {df : Nat → Nat → α} {id k : Nat} {x : α} (hg : g id) : zv_occ g dn df id (k + 1) x ↔ zv_occ g dn df id k x ∨ df id k = x := by
  constructor
  · rintro ⟨d, j, h1, h2, h3⟩
    rcases h2 with h2 | ⟨h2, h4⟩
    · exact Or.inl ⟨d, j, h1, Or.inl h2, h3⟩
    · by_cases e : j = k
      · subst h2; subst e; exact Or.inr h3
      · exact Or.inl ⟨d, j, h1, Or.inr ⟨h2, by omega⟩, h3⟩
  · rintro (⟨d, j, h1, h2, h3⟩ | h)
    · refine ⟨d, j, h1, ?_, h3⟩
      rcases h2 with h2 | ⟨h2, h4⟩
      · exact Or.inl h2
      · exact Or.inr ⟨h2, by omega⟩
    · exact ⟨id, k, hg, Or.inr ⟨rfl, by omega⟩, h⟩
theorem zv_occ_id {α : Type} {g : Nat → Prop} {dn : Nat → Nat} {df : Nat → Nat → α} {id : Nat} {x : α} : zv_occ g dn df (id + 1) 0 x ↔ zv_occ g dn df id (dn id) x ∨ False := by
  rw [or_false]
  constructor
  · rintro ⟨d, j, h1, h2, h3⟩
    rcases h2 with ⟨h2, h4⟩ | ⟨h2, h4⟩
    · by_cases e : d = id
      · exact ⟨d, j, h1, Or.inr ⟨e, by rw [e] at h4; exact h4⟩, h3⟩
      · exact ⟨d, j, h1, Or.inl ⟨by omega, h4⟩, h3⟩
    · omega
  · rintro ⟨d, j, h1, h2, h3⟩
    refine ⟨d, j, h1, Or.inl ?_, h3⟩
    rcases h2 with ⟨h2, h4⟩ | ⟨h2, h4⟩
    · exact ⟨by omega, h4⟩
    · rw [h2]; exact ⟨by omega, h4⟩
theorem zv_occ_id0 {α : Type} {g : Nat → Prop} {dn : Nat → Nat} {df : Nat → Nat → α} {id : Nat} {x : α} (hg : ¬ g id) : zv_occ g dn df (id + 1) 0 x ↔ zv_occ g dn df id 0 x := by
  constructor
  · rintro ⟨d, j, h1, h2, h3⟩
    rcases h2 with ⟨h2, h4⟩ | ⟨h2, h4⟩
    · by_cases e : d = id
      · rw [e] at h1; exact absurd h1 hg
      · exact ⟨d, j, h1, Or.inl ⟨by omega, h4⟩, h3⟩
    · omega
  · rintro ⟨d, j, h1, h2, h3⟩
    refine ⟨d, j, h1, Or.inl ?_, h3⟩
    rcases h2 with ⟨h2, h4⟩ | ⟨h2, h4⟩
    · exact ⟨by omega, h4⟩
    · omega
theorem zv_inv_0 {g : Nat → Option Nat} {dn : Nat → Nat} {df : Nat → Nat → Int64} {sn : Nat → Int64} : zv_inv g dn df 0 0 0 sn := by
  refine ⟨rfl, fun x => ⟨fun h => ?_, fun h => ?_⟩⟩
  · obtain ⟨i, hi, -⟩ := h; omega
  · obtain ⟨d, j, -, h2, -⟩ := h; omega
theorem zv_inv_old {g : Nat → Option Nat} {dn : Nat → Nat} {df : Nat → Nat → Int64} {id k m : Nat} {sn : Nat → Int64} (hg : g id ≠ none) (h : zv_inv g dn df id k m sn) (hs : ∃ i, i < m ∧ sn i = df id k) : zv_inv g dn df id (k + 1) m sn := by
  have hoc := (h.2 _).mp hs
  refine ⟨by rw [zv_cnt_k, zv_n_0 hoc]; exact h.1, fun x => ?_⟩
  rw [h.2, zv_occ_k (g := fun d => g d ≠ none) hg]
  exact ⟨fun q => Or.inl q, fun q => q.elim (fun z => z) (fun z => z ▸ hoc)⟩
theorem zv_inv_new {g : Nat → Option Nat} {dn : Nat → Nat} {df : Nat → Nat → Int64} {id k m : Nat} {sn : Nat → Int64} (hg : g id ≠ none) (h : zv_inv g dn df id k m sn) (hs : ∀ i, i < m → sn i ≠ df id k) : zv_inv g dn df id (k + 1) (m + 1) (vp_updL sn m (df id k)) := by
  have hoc : ¬ zv_occ (fun d => g d ≠ none) dn df id k (df id k) := fun q => by
    obtain ⟨i, h1, h2⟩ := (h.2 _).mpr q
    exact hs i h1 h2
  refine ⟨by rw [zv_cnt_k, zv_n_1 hoc, h.1], fun x => ?_⟩
  rw [zv_occ_k (g := fun d => g d ≠ none) hg, ← h.2]
  constructor
  · rintro ⟨i, h1, h2⟩
    by_cases e : i = m
    · rw [e, zf_upL] at h2; exact Or.inr h2
    · rw [zf_upLn e] at h2; exact Or.inl ⟨i, by omega, h2⟩
  · rintro (⟨i, h1, h2⟩ | h2)
    · exact ⟨i, by omega, by rw [zf_upLn (by omega)]; exact h2⟩
    · exact ⟨m, by omega, by rw [zf_upL]; exact h2⟩
theorem zv_tot_le {g : Nat → Option Nat} {dn : Nat → Nat} {id : Nat} (hid : id < 32) (hg : g id ≠ none) (ht : zv_tot g dn 32 ≤ 200) : zv_tot g dn id + dn id ≤ 200 := by
  have h1 : zv_tot g dn (id + 1) = zv_tot g dn id + dn id := by unfold zv_tot; rw [wn_sum, if_neg hg]
  have h2 : zv_tot g dn (id + 1) ≤ zv_tot g dn 32 := wn_sum_mono (by omega)
  omega
set_option maxHeartbeats 4000000 in
set_option maxRecDepth 100000 in
theorem c_Shelf_isSeen {G : zw_G} {w : zw_W} {i : Nat} {sn : Nat → Int64} (hs : w[i]? = some (zk_Sh i)) (hn : w[i + 2]? = some (zk_L 200 sn)) {x : Int64} {m : Nat} (hm : m ≤ 200) : zw_Met G Y_Shelf_isSeen 0 0 0 [.ref (i + 1), .long x, .int (nI m)] w (fun v w2 => (v = some (.int 1) ∧ (∃ j, j < m ∧ sn j = x) ∨ v = some (.int 0) ∧ ∀ j, j < m → sn j ≠ x) ∧ w2 = w) := by
  have key : ∀ k, k ≤ m → (∀ j, j < k → sn j ≠ x) → zw_Z G Y_Shelf_isSeen (zw_R 0 0 0) (fun _ => True) (zw_Q G 0 0 (fun v w2 => (v = some (.int 1) ∧ (∃ j, j < m ∧ sn j = x) ∨ v = some (.int 0) ∧ ∀ j, j < m → sn j ≠ x) ∧ w2 = w)) 0 0 3 [some (.ref (i + 1)), some (.long x), none, some (.int (nI m)), some (.int (nI k))] [] w := by
    refine wz_up m (fun k hk ih => ?_) ?_
    · intro hno
      refine zr_iload dShelf_isSeen_3 rfl ?_
      refine zr_iload_n dShelf_isSeen_5 rfl ?_
      refine zr_icmp_geN (tgt := 29) (by omega) (by omega) dShelf_isSeen_6 (by decide) (fun h6 => ?_) (fun h6 => ?_)
      · exfalso; omega
      · refine zr_aload_n dShelf_isSeen_9 rfl rfl ?_
        refine zr_getf g_Shelf_17 dShelf_isSeen_10 hs rfl ?_
        refine zr_iload dShelf_isSeen_13 rfl ?_
        refine zr_lald dShelf_isSeen_15 hn (by omega) (by decide) ?_
        refine zr_lload_n dShelf_isSeen_16 rfl ?_
        refine zr_lcmp_ne (tgt := 23) dShelf_isSeen_17 dShelf_isSeen_18 (by decide) (fun h17 => ?_) (fun h17 => ?_)
        · refine zr_iinc (v := nI (k + 1)) dShelf_isSeen_23 rfl (nI_1 _) (by decide) ?_
          refine zr_goto (tgt := 3) dShelf_isSeen_26 (by decide) ?_
          refine ih (fun j hj => ?_)
          by_cases e : j = k
          · rw [e]; exact h17
          · exact hno j (by omega)
        · refine zr_iconst (v := nI 1) dShelf_isSeen_21 (by decide) ?_
          exact zr_ireturn dShelf_isSeen_22 rfl rfl (⟨Or.inl ⟨rfl, k, hk, h17⟩, rfl⟩)
    · intro hno
      refine zr_iload dShelf_isSeen_3 rfl ?_
      refine zr_iload_n dShelf_isSeen_5 rfl ?_
      refine zr_icmp_geN (tgt := 29) (by omega) (by omega) dShelf_isSeen_6 (by decide) (fun h6 => ?_) (fun h6 => ?_)
      · refine zr_iconst (v := nI 0) dShelf_isSeen_29 (by decide) ?_
        exact zr_ireturn dShelf_isSeen_30 rfl rfl (⟨Or.inr ⟨rfl, hno⟩, rfl⟩)
      · exfalso; omega
  show zw_Z G Y_Shelf_isSeen _ _ _ 0 0 0 [some (.ref (i + 1)), some (.long x), none, some (.int (nI m)), none] [] _
  refine zr_iconst (v := nI 0) dShelf_isSeen_0 (by decide) ?_
  refine zr_istore dShelf_isSeen_1 (by decide) ?_
  exact key 0 (Nat.zero_le m) (fun j hj => absurd hj (Nat.not_lt_zero j))
set_option maxHeartbeats 4000000 in
set_option maxRecDepth 100000 in
theorem c_Shelf_noteNewWords {G : zw_G} {w : zw_W} {i : Nat} {sn : Nat → Int64} (hs : w[i]? = some (zk_Sh i)) (hn : w[i + 2]? = some (zk_L 200 sn)) {g : Nat → Option Nat} {dn : Nat → Nat} {df : Nat → Nat → Int64} {id q m : Nat} {c : Int32} (hi : i + 2 < 39) (hid : id < 32) (hg : g id ≠ none) (hdn : dn id ≤ 20) (ht : zv_tot g dn 32 ≤ 200) (hq0 : 39 ≤ q) (hq1 : w[q]? = some (.inr (6, [.int c, .ref (q + 2)]))) (hq2 : w[q + 1]? = some (zk_L (dn id) (df id))) (hinv0 : zv_inv g dn df id 0 m sn) : zw_Met G Y_Shelf_noteNewWords 1 0 0 [.ref (i + 1), .ref (q + 1), .int (nI m)] w (fun v w2 => ∃ m2 sn2, v = some (.int (nI m2)) ∧ w2 = (w.set (i + 2) (zk_L 200 sn2)) ∧ zv_inv g dn df id (dn id) m2 sn2) := by
  have hl : i + 2 < w.length := (List.getElem?_eq_some_iff.mp hn).1
  have htl := zv_tot_le hid hg ht
  have key : ∀ k, k ≤ (dn id) → ∀ m1 sn1, zv_inv g dn df id k m1 sn1 → zw_Z G Y_Shelf_noteNewWords (zw_R 1 0 0) (fun _ => True) (zw_Q G 0 0 (fun v w2 => ∃ m2 sn2, v = some (.int (nI m2)) ∧ w2 = (w.set (i + 2) (zk_L 200 sn2)) ∧ zv_inv g dn df id (dn id) m2 sn2)) 0 0 16 [some (.ref (i + 1)), some (.ref (q + 1)), some (.int (nI m)), some (.int (nI m1)), some (.ref (q + 2)), some (.int (nI (dn id))), some (.int (nI k)), none, none] [] (w.set (i + 2) (zk_L 200 sn1)) := by
    refine wz_up (dn id) (fun k hk ih => ?_) ?_
    · intro m1 sn1 hinv
      have hm1 : m1 < 200 := by
        have h1 := zv_cnt_le (g := g) (dn := dn) (df := df) (id := id) (k := k)
        rw [← hinv.1] at h1
        omega
      refine zr_iload dShelf_noteNewWords_16 rfl ?_
      refine zr_iload dShelf_noteNewWords_18 rfl ?_
      refine zr_icmp_geN (tgt := 66) (by omega) (by omega) dShelf_noteNewWords_20 (by decide) (fun h20 => ?_) (fun h20 => ?_)
      · exfalso; omega
      · refine zr_aload dShelf_noteNewWords_23 rfl rfl ?_
        refine zr_iload dShelf_noteNewWords_25 rfl ?_
        refine zr_lald dShelf_noteNewWords_27 (by rw [List.getElem?_set_ne (by omega)]; exact hq2) (hk) (by omega) ?_
        refine zr_lstore dShelf_noteNewWords_28 (by decide) ?_
        refine zr_iload_n dShelf_noteNewWords_30 rfl ?_
        refine zr_aload_n dShelf_noteNewWords_31 rfl rfl ?_
        refine zr_getf g_Shelf_17 dShelf_noteNewWords_32 (by rw [List.getElem?_set_ne (by omega)]; exact hs) rfl ?_
        refine zr_alen dShelf_noteNewWords_35 (List.getElem?_set_self hl) (by decide) rfl ?_
        refine zr_icmp_geN (tgt := 60) (by omega) (by omega) dShelf_noteNewWords_36 (by decide) (fun h36 => ?_) (fun h36 => ?_)
        · exfalso; omega
        · refine zr_aload_n dShelf_noteNewWords_39 rfl rfl ?_
          refine zr_lload dShelf_noteNewWords_40 rfl ?_
          refine zr_iload_n dShelf_noteNewWords_42 rfl ?_
          refine zr_invV (c_Shelf_isSeen (sn := sn1) (by rw [List.getElem?_set_ne (by omega)]; exact hs) (List.getElem?_set_self hl) (by omega)) m_Shelf_isSeen k_Shelf_40 v_Shelf_isSeen rfl (by rw [List.getElem?_set_ne (by omega)]; exact hs) dShelf_noteNewWords_43 rfl (Nat.le_of_ble_eq_true rfl) (by decide) (Nat.le_of_ble_eq_true rfl) rfl (fun v w2 hp => ?_)
          obtain ⟨hp, rfl⟩ := hp
          refine ⟨by rfl, ?_⟩
          rcases hp with ⟨rfl, hp⟩ | ⟨rfl, hp⟩
          · refine zr_if_ne (tgt := 60) dShelf_noteNewWords_46 (by decide) (fun h46 => ?_) (fun h46 => ?_)
            · refine zr_iinc (v := nI (k + 1)) dShelf_noteNewWords_60 rfl (nI_1 _) (by decide) ?_
              refine zr_goto (tgt := 16) dShelf_noteNewWords_63 (by decide) ?_
              exact zr_mask [true, true, true, true, true, true, true, false, false] (ih _ _ (zv_inv_old hg hinv hp))
            · exact absurd h46 (by decide)
          · refine zr_if_ne (tgt := 60) dShelf_noteNewWords_46 (by decide) (fun h46 => ?_) (fun h46 => ?_)
            · exact absurd rfl h46
            · refine zr_aload_n dShelf_noteNewWords_49 rfl rfl ?_
              refine zr_getf g_Shelf_17 dShelf_noteNewWords_50 (by rw [List.getElem?_set_ne (by omega)]; exact hs) rfl ?_
              refine zr_iload_n dShelf_noteNewWords_53 rfl ?_
              refine zr_lload dShelf_noteNewWords_54 rfl ?_
              refine zr_last dShelf_noteNewWords_56 (List.getElem?_set_self hl) (by omega) (by decide) ?_
              rw [List.set_set]
              refine zr_iinc (v := nI (m1 + 1)) dShelf_noteNewWords_57 rfl (nI_1 _) (by decide) ?_
              refine zr_iinc (v := nI (k + 1)) dShelf_noteNewWords_60 rfl (nI_1 _) (by decide) ?_
              refine zr_goto (tgt := 16) dShelf_noteNewWords_63 (by decide) ?_
              exact zr_mask [true, true, true, true, true, true, true, false, false] (ih _ _ (zv_inv_new hg hinv hp))
    · intro m1 sn1 hinv
      refine zr_iload dShelf_noteNewWords_16 rfl ?_
      refine zr_iload dShelf_noteNewWords_18 rfl ?_
      refine zr_icmp_geN (tgt := 66) (by omega) (by omega) dShelf_noteNewWords_20 (by decide) (fun h20 => ?_) (fun h20 => ?_)
      · refine zr_iload_n dShelf_noteNewWords_66 rfl ?_
        exact zr_ireturn dShelf_noteNewWords_67 rfl rfl (⟨_, _, rfl, rfl, hinv⟩)
      · exfalso; omega
  show zw_Z G Y_Shelf_noteNewWords _ _ _ 0 0 0 [some (.ref (i + 1)), some (.ref (q + 1)), some (.int (nI m)), none, none, none, none, none, none] [] _
  refine zr_iload_n dShelf_noteNewWords_0 rfl ?_
  refine zr_istore_n dShelf_noteNewWords_1 (by decide) ?_
  refine zr_aload_n dShelf_noteNewWords_2 rfl rfl ?_
  refine zr_getf g_Shelf_29 dShelf_noteNewWords_3 hq1 rfl ?_
  refine zr_astore dShelf_noteNewWords_6 (by decide) rfl ?_
  refine zr_aload dShelf_noteNewWords_8 rfl rfl ?_
  refine zr_alen dShelf_noteNewWords_10 hq2 (by decide) rfl ?_
  refine zr_istore dShelf_noteNewWords_11 (by decide) ?_
  refine zr_iconst (v := nI 0) dShelf_noteNewWords_13 (by decide) ?_
  refine zr_istore dShelf_noteNewWords_14 (by decide) ?_
  refine zr_wld (zf_setself hn) ?_
  exact key 0 (Nat.zero_le _) _ _ hinv0
set_option maxHeartbeats 4000000 in
set_option maxRecDepth 100000 in
theorem c_Shelf_differentWords {G : zw_G} {w : zw_W} {i : Nat} {sn : Nat → Int64} (hs : w[i]? = some (zk_Sh i)) (hn : w[i + 2]? = some (zk_L 200 sn)) {g : Nat → Option Nat} (hb : w[i + 1]? = some (zk_D 32 g)) {dc dn : Nat → Nat} {df : Nat → Nat → Int64} (hok : zs_ok w g dc dn df) (hi : i + 2 < 39) (ht : zv_tot g dn 32 ≤ 200) : zw_Met G Y_Shelf_differentWords 2 0 0 [.ref (i + 1)] w (fun v w2 => ∃ sn2, v = some (.int (nI (zv_cnt (fun d => g d ≠ none) dn df 32 0))) ∧ w2 = (w.set (i + 2) (zk_L 200 sn2))) := by
  have hl : i + 2 < w.length := (List.getElem?_eq_some_iff.mp hn).1
  have key : ∀ k, k ≤ 32 → ∀ m1 sn1, zv_inv g dn df k 0 m1 sn1 → zw_Z G Y_Shelf_differentWords (zw_R 2 0 0) (fun _ => True) (zw_Q G 0 0 (fun v w2 => ∃ sn2, v = some (.int (nI (zv_cnt (fun d => g d ≠ none) dn df 32 0))) ∧ w2 = (w.set (i + 2) (zk_L 200 sn2)))) 0 0 13 [some (.ref (i + 1)), some (.int (nI m1)), some (.ref (i + 2)), some (.int (nI 32)), some (.int (nI k)), none] [] (w.set (i + 2) (zk_L 200 sn1)) := by
    refine wz_up 32 (fun k hk ih => ?_) ?_
    · intro m1 sn1 hinv
      refine zr_iload dShelf_differentWords_13 rfl ?_
      refine zr_iload_n dShelf_differentWords_15 rfl ?_
      refine zr_icmp_geN (tgt := 44) (by omega) (by omega) dShelf_differentWords_16 (by decide) (fun h16 => ?_) (fun h16 => ?_)
      · exfalso; omega
      · refine zr_aload_n dShelf_differentWords_19 rfl rfl ?_
        refine zr_iload dShelf_differentWords_20 rfl ?_
        refine zr_aald dShelf_differentWords_22 (by rw [List.getElem?_set_ne (by omega)]; exact hb) (hk) (by decide) ?_
        rcases ho22 : g k with _ | r22
        · have hinv2 : zv_inv g dn df (k + 1) 0 m1 sn1 := ⟨by rw [zv_cnt_id0 (g := fun d => g d ≠ none) (fun q => q ho22)]; exact hinv.1, fun x => by rw [hinv.2, zv_occ_id0 (g := fun d => g d ≠ none) (fun q => q ho22)]⟩
          refine zr_astore dShelf_differentWords_23 (by decide) rfl ?_
          refine zr_aload dShelf_differentWords_25 rfl rfl ?_
          refine zr_ifnullN (tgt := 38) dShelf_differentWords_27 (by decide) ?_
          refine zr_iinc (v := nI (k + 1)) dShelf_differentWords_38 rfl (nI_1 _) (by decide) ?_
          refine zr_goto (tgt := 13) dShelf_differentWords_41 (by decide) ?_
          exact zr_mask [true, true, true, true, true, false] (ih _ _ hinv2)
        · obtain ⟨⟨q, rfl, hq0, hq1, hq2⟩, hq3, hq4⟩ := hok k hk r22 ho22
          have hg : g k ≠ none := by rw [ho22]; exact fun z => by cases z
          refine zr_astore dShelf_differentWords_23 (by decide) rfl ?_
          refine zr_aload dShelf_differentWords_25 rfl rfl ?_
          refine zr_ifnull dShelf_differentWords_27 ?_
          refine zr_aload_n dShelf_differentWords_30 rfl rfl ?_
          refine zr_aload dShelf_differentWords_31 rfl rfl ?_
          refine zr_iload_n dShelf_differentWords_33 rfl ?_
          refine zr_invV (c_Shelf_noteNewWords (w := w.set (i + 2) (zk_L 200 sn1)) (by rw [List.getElem?_set_ne (by omega)]; exact hs) (List.getElem?_set_self hl) hi hk hg hq3 ht hq0 (by rw [List.getElem?_set_ne (by omega)]; exact hq1) (by rw [List.getElem?_set_ne (by omega)]; exact hq2) hinv) m_Shelf_noteNewWords k_Shelf_36 v_Shelf_noteNewWords rfl (by rw [List.getElem?_set_ne (by omega)]; exact hs) dShelf_differentWords_34 rfl (Nat.le_of_ble_eq_true rfl) (by decide) (Nat.le_of_ble_eq_true rfl) rfl (fun v w2 hp => ?_)
          obtain ⟨m2, sn2, rfl, rfl, hinv3⟩ := hp
          refine ⟨by rw [List.length_set, List.length_set]; rfl, ?_⟩
          rw [List.set_set]
          have hinv2 : zv_inv g dn df (k + 1) 0 m2 sn2 := ⟨by rw [zv_cnt_id (g := fun d => g d ≠ none) hg]; exact hinv3.1, fun x => by rw [hinv3.2, zv_occ_id, or_false]⟩
          refine zr_istore_n dShelf_differentWords_37 (by decide) ?_
          refine zr_iinc (v := nI (k + 1)) dShelf_differentWords_38 rfl (nI_1 _) (by decide) ?_
          refine zr_goto (tgt := 13) dShelf_differentWords_41 (by decide) ?_
          exact zr_mask [true, true, true, true, true, false] (ih _ _ hinv2)
    · intro m1 sn1 hinv
      refine zr_iload dShelf_differentWords_13 rfl ?_
      refine zr_iload_n dShelf_differentWords_15 rfl ?_
      refine zr_icmp_geN (tgt := 44) (by omega) (by omega) dShelf_differentWords_16 (by decide) (fun h16 => ?_) (fun h16 => ?_)
      · refine zr_iload_n dShelf_differentWords_44 rfl ?_
        exact zr_ireturn dShelf_differentWords_45 rfl rfl (⟨sn1, by rw [hinv.1], rfl⟩)
      · exfalso; omega
  show zw_Z G Y_Shelf_differentWords _ _ _ 0 0 0 [some (.ref (i + 1)), none, none, none, none, none] [] _
  refine zr_iconst (v := nI 0) dShelf_differentWords_0 (by decide) ?_
  refine zr_istore_n dShelf_differentWords_1 (by decide) ?_
  refine zr_aload_n dShelf_differentWords_2 rfl rfl ?_
  refine zr_getf g_Shelf_11 dShelf_differentWords_3 hs rfl ?_
  refine zr_astore_n dShelf_differentWords_6 (by decide) rfl ?_
  refine zr_aload_n dShelf_differentWords_7 rfl rfl ?_
  refine zr_alen dShelf_differentWords_8 hb (by decide) rfl ?_
  refine zr_istore_n dShelf_differentWords_9 (by decide) ?_
  refine zr_iconst (v := nI 0) dShelf_differentWords_10 (by decide) ?_
  refine zr_istore dShelf_differentWords_11 (by decide) ?_
  refine zr_wld (zf_setself hn) ?_
  exact key 0 (Nat.zero_le _) _ _ zv_inv_0
end
section
/-! Log: cells 9 to 12 -/
abbrev zk_Log (m pb : Nat) : zw_C := .inr (3, [.ref 11, .ref 12, .ref 13, .int (nI m), .int (nI pb)])
/-- the changes 0 .. k - 1, done to a shelf -/
def zl_app {α : Type} (li : Nat → Nat) (pl : Nat → α) (g : Nat → α) : Nat → Nat → α
  | 0 => g
  | k + 1 => va_up (zl_app li pl g k) (li k) (pl k)
theorem zl_sub0 (x : Int32) : x - nI 0 = x := by
  rw [nI_0]
  exact Int32.sub_zero x
theorem zl_sub (x : Int32) (a b : Nat) : x - nI a - nI b = x - nI (a + b) := by
  rw [← nI_add, Int32.sub_sub]
theorem zl_toInt {x : Int32} {a : Nat} (ha : a < 1000) (h : a = 0 ∨ (a : Int) ≤ x.toInt) : (x - nI a).toInt = x.toInt - a := by
  rcases h with h | h
  · subst h
    rw [zl_sub0]
    simp
  · have h1 : (nI a).toInt = a := nI_toInt (by omega)
    have h2 := x.toInt_lt
    have h3 := x.le_toInt
    rw [Int32.toInt_sub, h1]
    apply Int.bmod_eq_of_le
    · simp at *; omega
    · simp at *; omega
/-- how many changes have reached the disk -/
def zl_done (m : Nat) (lb : Nat → Nat) (x : Int32) (k : Nat) : Prop := k ≤ m ∧ (∀ j, j < k → (wn_sum lb (j + 1) : Int) ≤ x.toInt) ∧ (k = m ∨ x.toInt < wn_sum lb (k + 1))
theorem zl_done_one {m : Nat} {lb : Nat → Nat} {x : Int32} {k k2 : Nat} (h : zl_done m lb x k) (h2 : zl_done m lb x k2) : k = k2 := by
  obtain ⟨a1, a2, a3⟩ := h
  obtain ⟨b1, b2, b3⟩ := h2
  rcases Nat.lt_trichotomy k k2 with q | q | q
  · have := b2 k q
    rcases a3 with a3 | a3 <;> omega
  · exact q
  · have := a2 k2 q
    rcases b3 with b3 | b3 <;> omega
set_option maxHeartbeats 4000000 in
set_option maxRecDepth 100000 in
theorem c_Log_init {G : zw_G} {c0 c1 c2 c3 c4 c5 c6 c7 c8 : zw_C} : zw_Met G Y_Log_init 1 3 72 [.ref 10] ([c0, c1, c2, c3, c4, c5, c6, c7, c8, .inr (3, [.null, .null, .null, .int 0, .int 0])]) (zw_is none [c0, c1, c2, c3, c4, c5, c6, c7, c8, zk_Log 0 0, zk_I 24 (fun _ => 0), zk_I 24 (fun _ => 0), zk_D 24 (fun _ => none)]) := by
  show zw_Z G Y_Log_init _ _ _ 0 0 0 [some (.ref 10)] [] _
  refine zr_aload_n dLog_init_0 rfl rfl ?_
  refine zr_objInit o_Log_3 t_oi t_oc dLog_init_1 (by decide) ?_
  refine zr_aload_n dLog_init_4 rfl rfl ?_
  refine zr_bipush (v := nI 24) dLog_init_5 (by decide) ?_
  refine zr_newI t_arrI dLog_init_7 (by decide) (by decide) ?_
  refine zr_putF f_Log_9 rfl dLog_init_9 rfl (Nat.le_of_ble_eq_true rfl) (fun _ => rfl) (fun _ => rfl) ?_
  refine zr_aload_n dLog_init_12 rfl rfl ?_
  refine zr_bipush (v := nI 24) dLog_init_13 (by decide) ?_
  refine zr_newI t_arrI dLog_init_15 (by decide) (by decide) ?_
  refine zr_putF f_Log_15 rfl dLog_init_17 rfl (Nat.le_of_ble_eq_true rfl) (fun _ => rfl) (fun _ => rfl) ?_
  refine zr_aload_n dLog_init_20 rfl rfl ?_
  refine zr_bipush (v := nI 24) dLog_init_21 (by decide) ?_
  refine zr_newD c_Log_18 t_aoD dLog_init_23 (by decide) (by decide) ?_
  refine zr_putF f_Log_20 rfl dLog_init_26 rfl (Nat.le_of_ble_eq_true rfl) (fun _ => rfl) (fun _ => rfl) ?_
  refine zr_aload_n dLog_init_29 rfl rfl ?_
  refine zr_iconst (v := nI 0) dLog_init_30 (by decide) ?_
  refine zr_putf f_Log_24 dLog_init_31 rfl (Nat.le_of_ble_eq_true rfl) (fun _ => rfl) (fun _ => rfl) ?_
  refine zr_aload_n dLog_init_34 rfl rfl ?_
  refine zr_iconst (v := nI 0) dLog_init_35 (by decide) ?_
  refine zr_putf f_Log_28 dLog_init_36 rfl (Nat.le_of_ble_eq_true rfl) (fun _ => rfl) (fun _ => rfl) ?_
  exact zr_return dLog_init_39 rfl (⟨rfl, rfl⟩)
set_option maxHeartbeats 4000000 in
set_option maxRecDepth 100000 in
theorem c_Shelf_init1 {G : zw_G} {c0 c1 c2 : zw_C} : zw_Met G Y_Shelf_init 1 2 232 [.ref 4] ([c0, c1, c2, .inr (2, [.null, .null])]) (zw_is none [c0, c1, c2, zk_Sh 3, zk_D 32 (fun _ => none), zk_L 200 (fun _ => 0)]) := by
  show zw_Z G Y_Shelf_init _ _ _ 0 0 0 [some (.ref 4)] [] _
  refine zr_aload_n dShelf_init_0 rfl rfl ?_
  refine zr_objInit o_Shelf_3 t_oi t_oc dShelf_init_1 (by decide) ?_
  refine zr_aload_n dShelf_init_4 rfl rfl ?_
  refine zr_bipush (v := nI 32) dShelf_init_5 (by decide) ?_
  refine zr_newD c_Shelf_9 t_aoD dShelf_init_7 (by decide) (by decide) ?_
  refine zr_putF f_Shelf_11 rfl dShelf_init_10 rfl (Nat.le_of_ble_eq_true rfl) (fun _ => rfl) (fun _ => rfl) ?_
  refine zr_aload_n dShelf_init_13 rfl rfl ?_
  refine zr_sipush (v := nI 200) dShelf_init_14 (by decide) ?_
  refine zr_newL t_arrL dShelf_init_17 (by decide) (by decide) ?_
  refine zr_putF f_Shelf_17 rfl dShelf_init_19 rfl (Nat.le_of_ble_eq_true rfl) (fun _ => rfl) (fun _ => rfl) ?_
  exact zr_return dShelf_init_22 rfl (⟨rfl, rfl⟩)
set_option maxHeartbeats 4000000 in
set_option maxRecDepth 100000 in
theorem c_Shelf_init2 {G : zw_G} {c0 c1 c2 c3 c4 c5 : zw_C} : zw_Met G Y_Shelf_init 1 2 232 [.ref 7] ([c0, c1, c2, c3, c4, c5, .inr (2, [.null, .null])]) (zw_is none [c0, c1, c2, c3, c4, c5, zk_Sh 6, zk_D 32 (fun _ => none), zk_L 200 (fun _ => 0)]) := by
  show zw_Z G Y_Shelf_init _ _ _ 0 0 0 [some (.ref 7)] [] _
  refine zr_aload_n dShelf_init_0 rfl rfl ?_
  refine zr_objInit o_Shelf_3 t_oi t_oc dShelf_init_1 (by decide) ?_
  refine zr_aload_n dShelf_init_4 rfl rfl ?_
  refine zr_bipush (v := nI 32) dShelf_init_5 (by decide) ?_
  refine zr_newD c_Shelf_9 t_aoD dShelf_init_7 (by decide) (by decide) ?_
  refine zr_putF f_Shelf_11 rfl dShelf_init_10 rfl (Nat.le_of_ble_eq_true rfl) (fun _ => rfl) (fun _ => rfl) ?_
  refine zr_aload_n dShelf_init_13 rfl rfl ?_
  refine zr_sipush (v := nI 200) dShelf_init_14 (by decide) ?_
  refine zr_newL t_arrL dShelf_init_17 (by decide) (by decide) ?_
  refine zr_putF f_Shelf_17 rfl dShelf_init_19 rfl (Nat.le_of_ble_eq_true rfl) (fun _ => rfl) (fun _ => rfl) ?_
  exact zr_return dShelf_init_22 rfl (⟨rfl, rfl⟩)
set_option maxHeartbeats 4000000 in
set_option maxRecDepth 100000 in
theorem c_Log_hasRoomFor {G : zw_G} {c0 c1 c2 c3 c4 c5 c6 c7 c8 : zw_C} {r : zw_W} {m pb : Nat} {ids bl : Nat → Int32} {pl : Nat → Option Nat} {a : Nat} (hp : pb < 1000) (ha : a < 1000) : zw_Met G Y_Log_hasRoomFor 0 0 0 [.ref 10, .int (nI a)] ((c0 :: c1 :: c2 :: c3 :: c4 :: c5 :: c6 :: c7 :: c8 :: zk_Log m pb :: zk_I 24 ids :: zk_I 24 bl :: zk_D 24 pl :: r)) (zw_is (some (.int (zw_b (pb + a ≤ 24)))) (c0 :: c1 :: c2 :: c3 :: c4 :: c5 :: c6 :: c7 :: c8 :: zk_Log m pb :: zk_I 24 ids :: zk_I 24 bl :: zk_D 24 pl :: r)) := by
  show zw_Z G Y_Log_hasRoomFor _ _ _ 0 0 0 [some (.ref 10), some (.int (nI a))] [] _
  refine zr_aload_n dLog_hasRoomFor_0 rfl rfl ?_
  refine zr_getf g_Log_28 dLog_hasRoomFor_1 rfl rfl ?_
  refine zr_iload_n dLog_hasRoomFor_4 rfl ?_
  refine zr_iaddN dLog_hasRoomFor_5 ?_
  refine zr_bipush (v := nI 24) dLog_hasRoomFor_6 (by decide) ?_
  refine zr_icmp_gtN (tgt := 15) (by omega) (by omega) dLog_hasRoomFor_8 (by decide) (fun h8 => ?_) (fun h8 => ?_)
  · have hb : zw_b (pb + a ≤ 24) = 0 := zw_b0 (by omega)
    refine zr_iconst (v := nI 0) dLog_hasRoomFor_15 (by decide) ?_
    exact zr_ireturn dLog_hasRoomFor_16 rfl rfl (⟨congrArg (fun x => some (Value.int x)) hb.symm, rfl⟩)
  · have hb : zw_b (pb + a ≤ 24) = 1 := zw_b1 (by omega)
    refine zr_iconst (v := nI 1) dLog_hasRoomFor_11 (by decide) ?_
    refine zr_goto (tgt := 16) dLog_hasRoomFor_12 (by decide) ?_
    exact zr_ireturn dLog_hasRoomFor_16 rfl rfl (⟨congrArg (fun x => some (Value.int x)) hb.symm, rfl⟩)
set_option maxHeartbeats 4000000 in
set_option maxRecDepth 100000 in
theorem c_Log_empty {G : zw_G} {c0 c1 c2 c3 c4 c5 c6 c7 c8 : zw_C} {r : zw_W} {m pb : Nat} {ids bl : Nat → Int32} {pl : Nat → Option Nat} : zw_Met G Y_Log_empty 0 0 0 [.ref 10] ((c0 :: c1 :: c2 :: c3 :: c4 :: c5 :: c6 :: c7 :: c8 :: zk_Log m pb :: zk_I 24 ids :: zk_I 24 bl :: zk_D 24 pl :: r)) (zw_is (some (.int (nI pb))) (c0 :: c1 :: c2 :: c3 :: c4 :: c5 :: c6 :: c7 :: c8 :: zk_Log 0 0 :: zk_I 24 ids :: zk_I 24 bl :: zk_D 24 pl :: r)) := by
  show zw_Z G Y_Log_empty _ _ _ 0 0 0 [some (.ref 10), none] [] _
  refine zr_aload_n dLog_empty_0 rfl rfl ?_
  refine zr_getf g_Log_28 dLog_empty_1 rfl rfl ?_
  refine zr_istore_n dLog_empty_4 (by decide) ?_
  refine zr_aload_n dLog_empty_5 rfl rfl ?_
  refine zr_iconst (v := nI 0) dLog_empty_6 (by decide) ?_
  refine zr_putf f_Log_24 dLog_empty_7 rfl (Nat.le_of_ble_eq_true rfl) (fun _ => rfl) (fun _ => rfl) ?_
  refine zr_aload_n dLog_empty_10 rfl rfl ?_
  refine zr_iconst (v := nI 0) dLog_empty_11 (by decide) ?_
  refine zr_putf f_Log_28 dLog_empty_12 rfl (Nat.le_of_ble_eq_true rfl) (fun _ => rfl) (fun _ => rfl) ?_
  refine zr_iload_n dLog_empty_15 rfl ?_
  exact zr_ireturn dLog_empty_16 rfl rfl (⟨rfl, rfl⟩)
set_option maxHeartbeats 4000000 in
set_option maxRecDepth 100000 in
theorem c_Log_write_some {G : zw_G} {c0 c1 c2 c3 c4 c5 c6 c7 c8 : zw_C} {r : zw_W} {m pb : Nat} {ids bl : Nat → Int32} {pl : Nat → Option Nat} {id a : Nat} (hm : m < 24) {k : Nat} {vs : List Value} (hq : r[k + 26]? = some (.inr (6, vs))) : zw_Met G Y_Log_write 0 0 0 [.ref 10, .int (nI id), .ref (k + 40), .int (nI a)] ((c0 :: c1 :: c2 :: c3 :: c4 :: c5 :: c6 :: c7 :: c8 :: zk_Log m pb :: zk_I 24 ids :: zk_I 24 bl :: zk_D 24 pl :: r)) (zw_is none (c0 :: c1 :: c2 :: c3 :: c4 :: c5 :: c6 :: c7 :: c8 :: zk_Log (m + 1) (pb + a) :: zk_I 24 (upd ids m (nI id)) :: zk_I 24 (upd bl m (nI a)) :: zk_D 24 (va_up pl m (some (k + 40))) :: r)) := by
  show zw_Z G Y_Log_write _ _ _ 0 0 0 [some (.ref 10), some (.int (nI id)), some (.ref (k + 40)), some (.int (nI a))] [] _
  refine zr_aload_n dLog_write_0 rfl rfl ?_
  refine zr_getf g_Log_24 dLog_write_1 rfl rfl ?_
  refine zr_bipush (v := nI 24) dLog_write_4 (by decide) ?_
  refine zr_icmp_geN (tgt := 59) (by omega) (by omega) dLog_write_6 (by decide) (fun h6 => ?_) (fun h6 => ?_)
  · exfalso; omega
  · refine zr_aload_n dLog_write_9 rfl rfl ?_
    refine zr_getf g_Log_9 dLog_write_10 rfl rfl ?_
    refine zr_aload_n dLog_write_13 rfl rfl ?_
    refine zr_getf g_Log_24 dLog_write_14 rfl rfl ?_
    refine zr_iload_n dLog_write_17 rfl ?_
    refine zr_iast dLog_write_18 rfl (hm) (by decide) ?_
    refine zr_aload_n dLog_write_19 rfl rfl ?_
    refine zr_getf g_Log_20 dLog_write_20 rfl rfl ?_
    refine zr_aload_n dLog_write_23 rfl rfl ?_
    refine zr_getf g_Log_24 dLog_write_24 rfl rfl ?_
    refine zr_aload_n dLog_write_27 rfl rfl ?_
    refine zr_aast dLog_write_28 rfl (hm) (by decide) hq rfl ?_
    refine zr_aload_n dLog_write_29 rfl rfl ?_
    refine zr_getf g_Log_15 dLog_write_30 rfl rfl ?_
    refine zr_aload_n dLog_write_33 rfl rfl ?_
    refine zr_getf g_Log_24 dLog_write_34 rfl rfl ?_
    refine zr_iload_n dLog_write_37 rfl ?_
    refine zr_iast dLog_write_38 rfl (hm) (by decide) ?_
    refine zr_aload_n dLog_write_39 rfl rfl ?_
    refine zr_dup dLog_write_40 rfl ?_
    refine zr_getf g_Log_24 dLog_write_41 rfl rfl ?_
    refine zr_iconst (v := nI 1) dLog_write_44 (by decide) ?_
    refine zr_iaddN dLog_write_45 ?_
    refine zr_putf f_Log_24 dLog_write_46 rfl (Nat.le_of_ble_eq_true rfl) (fun _ => rfl) (fun _ => rfl) ?_
    refine zr_aload_n dLog_write_49 rfl rfl ?_
    refine zr_dup dLog_write_50 rfl ?_
    refine zr_getf g_Log_28 dLog_write_51 rfl rfl ?_
    refine zr_iload_n dLog_write_54 rfl ?_
    refine zr_iaddN dLog_write_55 ?_
    refine zr_putf f_Log_28 dLog_write_56 rfl (Nat.le_of_ble_eq_true rfl) (fun _ => rfl) (fun _ => rfl) ?_
    exact zr_return dLog_write_59 rfl (⟨rfl, rfl⟩)
set_option maxHeartbeats 4000000 in
set_option maxRecDepth 100000 in
theorem c_Log_write_none {G : zw_G} {c0 c1 c2 c3 c4 c5 c6 c7 c8 : zw_C} {r : zw_W} {m pb : Nat} {ids bl : Nat → Int32} {pl : Nat → Option Nat} {id a : Nat} (hm : m < 24) : zw_Met G Y_Log_write 0 0 0 [.ref 10, .int (nI id), .null, .int (nI a)] ((c0 :: c1 :: c2 :: c3 :: c4 :: c5 :: c6 :: c7 :: c8 :: zk_Log m pb :: zk_I 24 ids :: zk_I 24 bl :: zk_D 24 pl :: r)) (zw_is none (c0 :: c1 :: c2 :: c3 :: c4 :: c5 :: c6 :: c7 :: c8 :: zk_Log (m + 1) (pb + a) :: zk_I 24 (upd ids m (nI id)) :: zk_I 24 (upd bl m (nI a)) :: zk_D 24 (va_up pl m none) :: r)) := by
  show zw_Z G Y_Log_write _ _ _ 0 0 0 [some (.ref 10), some (.int (nI id)), some (.null), some (.int (nI a))] [] _
  refine zr_aload_n dLog_write_0 rfl rfl ?_
  refine zr_getf g_Log_24 dLog_write_1 rfl rfl ?_
  refine zr_bipush (v := nI 24) dLog_write_4 (by decide) ?_
  refine zr_icmp_geN (tgt := 59) (by omega) (by omega) dLog_write_6 (by decide) (fun h6 => ?_) (fun h6 => ?_)
  · exfalso; omega
  · refine zr_aload_n dLog_write_9 rfl rfl ?_
    refine zr_getf g_Log_9 dLog_write_10 rfl rfl ?_
    refine zr_aload_n dLog_write_13 rfl rfl ?_
    refine zr_getf g_Log_24 dLog_write_14 rfl rfl ?_
    refine zr_iload_n dLog_write_17 rfl ?_
    refine zr_iast dLog_write_18 rfl (hm) (by decide) ?_
    refine zr_aload_n dLog_write_19 rfl rfl ?_
    refine zr_getf g_Log_20 dLog_write_20 rfl rfl ?_
    refine zr_aload_n dLog_write_23 rfl rfl ?_
    refine zr_getf g_Log_24 dLog_write_24 rfl rfl ?_
    refine zr_aload_n dLog_write_27 rfl rfl ?_
    refine zr_aastN dLog_write_28 rfl (hm) (by decide) ?_
    refine zr_aload_n dLog_write_29 rfl rfl ?_
    refine zr_getf g_Log_15 dLog_write_30 rfl rfl ?_
    refine zr_aload_n dLog_write_33 rfl rfl ?_
    refine zr_getf g_Log_24 dLog_write_34 rfl rfl ?_
    refine zr_iload_n dLog_write_37 rfl ?_
    refine zr_iast dLog_write_38 rfl (hm) (by decide) ?_
    refine zr_aload_n dLog_write_39 rfl rfl ?_
    refine zr_dup dLog_write_40 rfl ?_
    refine zr_getf g_Log_24 dLog_write_41 rfl rfl ?_
    refine zr_iconst (v := nI 1) dLog_write_44 (by decide) ?_
    refine zr_iaddN dLog_write_45 ?_
    refine zr_putf f_Log_24 dLog_write_46 rfl (Nat.le_of_ble_eq_true rfl) (fun _ => rfl) (fun _ => rfl) ?_
    refine zr_aload_n dLog_write_49 rfl rfl ?_
    refine zr_dup dLog_write_50 rfl ?_
    refine zr_getf g_Log_28 dLog_write_51 rfl rfl ?_
    refine zr_iload_n dLog_write_54 rfl ?_
    refine zr_iaddN dLog_write_55 ?_
    refine zr_putf f_Log_28 dLog_write_56 rfl (Nat.le_of_ble_eq_true rfl) (fun _ => rfl) (fun _ => rfl) ?_
    exact zr_return dLog_write_59 rfl (⟨rfl, rfl⟩)
theorem zl_exit {lb : Nat → Nat} {x : Int32} {k : Nat} (hs : wn_sum lb (k + 1) ≤ 24) (hall : ∀ j, j < k → (wn_sum lb (j + 1) : Int) ≤ x.toInt) (hS : wn_sum lb k = 0 ∨ (wn_sum lb k : Int) ≤ x.toInt) (h : x - nI (wn_sum lb k) < nI (lb k)) : x.toInt < wn_sum lb (k + 1) := by
  have e : wn_sum lb (k + 1) = wn_sum lb k + lb k := rfl
  have h1 := Int32.lt_iff_toInt_lt.mp h
  rw [zl_toInt (by omega) hS, nI_toInt (by omega)] at h1
  omega
theorem zl_goes {lb : Nat → Nat} {x : Int32} {k : Nat} (hs : wn_sum lb (k + 1) ≤ 24) (hS : wn_sum lb k = 0 ∨ (wn_sum lb k : Int) ≤ x.toInt) (h : ¬ x - nI (wn_sum lb k) < nI (lb k)) : (wn_sum lb (k + 1) : Int) ≤ x.toInt := by
  have e : wn_sum lb (k + 1) = wn_sum lb k + lb k := rfl
  have h1 := Int32.le_iff_toInt_le.mp (Int32.not_lt.mp h)
  rw [zl_toInt (by omega) hS, nI_toInt (by omega)] at h1
  omega
set_option maxHeartbeats 4000000 in
set_option maxRecDepth 100000 in
theorem c_Log_replayOn {G : zw_G} {c0 c1 c2 c3 c4 c5 c8 : zw_C} {r : zw_W} {m pb : Nat} {ids bl : Nat → Int32} {pl : Nat → Option Nat} {g : Nat → Option Nat} {li lb : Nat → Nat} {x : Int32} (hm : m ≤ 24) (hids : ∀ j, j < m → ids j = nI (li j)) (hbl : ∀ j, j < m → bl j = nI (lb j)) (h32 : ∀ j, j < m → li j < 32) (hsum : wn_sum lb m ≤ 24) (hd : ∀ j, j < m → ∀ q, pl j = some q → ∃ k vs, q = k + 40 ∧ r[k + 26]? = some (.inr (6, vs))) : zw_Met G Y_Log_replayOn 2 0 0 [.ref 10, .ref 7, .int x] (c0 :: c1 :: c2 :: c3 :: c4 :: c5 :: zk_Sh 6 :: zk_D 32 g :: c8 :: zk_Log m pb :: zk_I 24 ids :: zk_I 24 bl :: zk_D 24 pl :: r) (fun v w2 => ∃ k, zl_done m lb x k ∧ v = some (.int (nI (m - k))) ∧ w2 = (c0 :: c1 :: c2 :: c3 :: c4 :: c5 :: zk_Sh 6 :: zk_D 32 (zl_app li pl g k) :: c8 :: zk_Log m pb :: zk_I 24 ids :: zk_I 24 bl :: zk_D 24 pl :: r)) := by
  have key : ∀ k, k ≤ m → k ≤ m → (∀ j, j < k → (wn_sum lb (j + 1) : Int) ≤ x.toInt) → zw_Z G Y_Log_replayOn (zw_R 2 0 0) (fun _ => True) (zw_Q G 0 0 (fun v w2 => ∃ k, zl_done m lb x k ∧ v = some (.int (nI (m - k))) ∧ w2 = (c0 :: c1 :: c2 :: c3 :: c4 :: c5 :: zk_Sh 6 :: zk_D 32 (zl_app li pl g k) :: c8 :: zk_Log m pb :: zk_I 24 ids :: zk_I 24 bl :: zk_D 24 pl :: r))) 0 0 5 [some (.ref 10), some (.ref 7), some (.int x), some (.int (x - nI (wn_sum lb k))), some (.int (nI k))] [] (c0 :: c1 :: c2 :: c3 :: c4 :: c5 :: zk_Sh 6 :: zk_D 32 (zl_app li pl g k) :: c8 :: zk_Log m pb :: zk_I 24 ids :: zk_I 24 bl :: zk_D 24 pl :: r) := by
    refine wz_up m (fun k hk ih => ?_) ?_
    · intro hk2 hall
      have hsk : wn_sum lb (k + 1) ≤ 24 := Nat.le_trans (wn_sum_mono hk) hsum
      have hS : wn_sum lb k = 0 ∨ (wn_sum lb k : Int) ≤ x.toInt := by
        cases k with
        | zero => exact Or.inl rfl
        | succ k => exact Or.inr (hall k (by omega))
      refine zr_iload dLog_replayOn_5 rfl ?_
      refine zr_aload_n dLog_replayOn_7 rfl rfl ?_
      refine zr_getf g_Log_24 dLog_replayOn_8 rfl rfl ?_
      refine zr_icmp_geN (tgt := 59) (by omega) (by omega) dLog_replayOn_11 (by decide) (fun h11 => ?_) (fun h11 => ?_)
      · exfalso; omega
      · refine zr_aload_n dLog_replayOn_14 rfl rfl ?_
        refine zr_getf g_Log_15 dLog_replayOn_15 rfl rfl ?_
        refine zr_iload dLog_replayOn_18 rfl ?_
        refine zr_iald dLog_replayOn_20 rfl (by omega) (by decide) ?_
        refine zr_topI (hbl k hk) ?_
        refine zr_iload_n dLog_replayOn_21 rfl ?_
        refine zr_icmp_gt (tgt := 59) dLog_replayOn_22 (by decide) (fun h22 => ?_) (fun h22 => ?_)
        · refine zr_aload_n dLog_replayOn_59 rfl rfl ?_
          refine zr_getf g_Log_24 dLog_replayOn_60 rfl rfl ?_
          refine zr_iload dLog_replayOn_63 rfl ?_
          refine zr_isubN (by omega) dLog_replayOn_65 ?_
          exact zr_ireturn dLog_replayOn_66 rfl rfl (⟨k, ⟨by omega, hall, Or.inr (zl_exit hsk hall hS h22)⟩, rfl, rfl⟩)
        · have hgo := zl_goes hsk hS h22
          have hall2 : ∀ j, j < k + 1 → (wn_sum lb (j + 1) : Int) ≤ x.toInt := fun j hj => by
            by_cases e : j = k
            · rw [e]; exact hgo
            · exact hall j (by omega)
          refine zr_aload_n dLog_replayOn_25 rfl rfl ?_
          refine zr_aload_n dLog_replayOn_26 rfl rfl ?_
          refine zr_getf g_Log_9 dLog_replayOn_27 rfl rfl ?_
          refine zr_iload dLog_replayOn_30 rfl ?_
          refine zr_iald dLog_replayOn_32 rfl (by omega) (by decide) ?_
          refine zr_topI (hids k hk) ?_
          refine zr_aload_n dLog_replayOn_33 rfl rfl ?_
          refine zr_getf g_Log_20 dLog_replayOn_34 rfl rfl ?_
          refine zr_iload dLog_replayOn_37 rfl ?_
          refine zr_aald dLog_replayOn_39 rfl (by omega) (by decide) ?_
          rcases ho39 : pl k with _ | r39
          · refine zr_invV (c_Shelf_put_none (i := 6) rfl rfl (h32 k hk)) m_Shelf_put k_Log_31 v_Shelf_put rfl rfl dLog_replayOn_40 rfl (Nat.le_of_ble_eq_true rfl) (by decide) (Nat.le_of_ble_eq_true rfl) rfl (fun v w2 hp => ?_)
            obtain ⟨rfl, rfl⟩ := hp
            refine ⟨rfl, ?_⟩
            refine zr_wld (w2 := (c0 :: c1 :: c2 :: c3 :: c4 :: c5 :: zk_Sh 6 :: zk_D 32 (zl_app li pl g (k + 1)) :: c8 :: zk_Log m pb :: zk_I 24 ids :: zk_I 24 bl :: zk_D 24 pl :: r)) (by rw [show zl_app li pl g (k + 1) = va_up (zl_app li pl g k) (li k) none from by rw [zl_app, ho39]]; rfl) ?_
            refine zr_iload_n dLog_replayOn_43 rfl ?_
            refine zr_aload_n dLog_replayOn_44 rfl rfl ?_
            refine zr_getf g_Log_15 dLog_replayOn_45 rfl rfl ?_
            refine zr_iload dLog_replayOn_48 rfl ?_
            refine zr_iald dLog_replayOn_50 rfl (by omega) (by decide) ?_
            refine zr_topI (hbl k hk) ?_
            refine zr_isub dLog_replayOn_51 ?_
            refine zr_topI (zl_sub x _ _) ?_
            refine zr_istore_n dLog_replayOn_52 (by decide) ?_
            refine zr_iinc (v := nI (k + 1)) dLog_replayOn_53 rfl (nI_1 _) (by decide) ?_
            refine zr_goto (tgt := 5) dLog_replayOn_56 (by decide) ?_
            exact ih (by omega) hall2
          · obtain ⟨q, vs, rfl, hq⟩ := hd k hk r39 ho39
            refine zr_invV (c_Shelf_put_some (i := 6) rfl rfl (h32 k hk) (q := q + 39) hq) m_Shelf_put k_Log_31 v_Shelf_put rfl rfl dLog_replayOn_40 rfl (Nat.le_of_ble_eq_true rfl) (by decide) (Nat.le_of_ble_eq_true rfl) rfl (fun v w2 hp => ?_)
            obtain ⟨rfl, rfl⟩ := hp
            refine ⟨rfl, ?_⟩
            refine zr_wld (w2 := (c0 :: c1 :: c2 :: c3 :: c4 :: c5 :: zk_Sh 6 :: zk_D 32 (zl_app li pl g (k + 1)) :: c8 :: zk_Log m pb :: zk_I 24 ids :: zk_I 24 bl :: zk_D 24 pl :: r)) (by rw [show zl_app li pl g (k + 1) = va_up (zl_app li pl g k) (li k) (some (q + 40)) from by rw [zl_app, ho39]]; rfl) ?_
            refine zr_iload_n dLog_replayOn_43 rfl ?_
            refine zr_aload_n dLog_replayOn_44 rfl rfl ?_
            refine zr_getf g_Log_15 dLog_replayOn_45 rfl rfl ?_
            refine zr_iload dLog_replayOn_48 rfl ?_
            refine zr_iald dLog_replayOn_50 rfl (by omega) (by decide) ?_
            refine zr_topI (hbl k hk) ?_
            refine zr_isub dLog_replayOn_51 ?_
            refine zr_topI (zl_sub x _ _) ?_
            refine zr_istore_n dLog_replayOn_52 (by decide) ?_
            refine zr_iinc (v := nI (k + 1)) dLog_replayOn_53 rfl (nI_1 _) (by decide) ?_
            refine zr_goto (tgt := 5) dLog_replayOn_56 (by decide) ?_
            exact ih (by omega) hall2
    · intro _ hall
      refine zr_iload dLog_replayOn_5 rfl ?_
      refine zr_aload_n dLog_replayOn_7 rfl rfl ?_
      refine zr_getf g_Log_24 dLog_replayOn_8 rfl rfl ?_
      refine zr_icmp_geN (tgt := 59) (by omega) (by omega) dLog_replayOn_11 (by decide) (fun h11 => ?_) (fun h11 => ?_)
      · refine zr_aload_n dLog_replayOn_59 rfl rfl ?_
        refine zr_getf g_Log_24 dLog_replayOn_60 rfl rfl ?_
        refine zr_iload dLog_replayOn_63 rfl ?_
        refine zr_isubN (by omega) dLog_replayOn_65 ?_
        exact zr_ireturn dLog_replayOn_66 rfl rfl (⟨m, ⟨Nat.le_refl m, hall, Or.inl rfl⟩, rfl, rfl⟩)
      · exfalso; omega
  show zw_Z G Y_Log_replayOn _ _ _ 0 0 0 [some (.ref 10), some (.ref 7), some (.int x), none, none] [] _
  refine zr_iload_n dLog_replayOn_0 rfl ?_
  refine zr_topI (zl_sub0 x).symm ?_
  refine zr_istore_n dLog_replayOn_1 (by decide) ?_
  refine zr_iconst (v := nI 0) dLog_replayOn_2 (by decide) ?_
  refine zr_istore dLog_replayOn_3 (by decide) ?_
  exact key 0 (Nat.zero_le m) (Nat.zero_le m) (fun j hj => absurd hj (Nat.not_lt_zero j))
end
section
/-! Chances: cells 13 to 24 -/
abbrev zk_Ch (n wc : Nat) : zw_C := .inr (4, [.ref 15, .ref 16, .ref 21, .ref 22, .ref 24, .int (nI n), .int (nI wc)])
abbrev zk_P (i : Nat) : zw_C := .inr (5, [.ref (i + 2)])
def zk_ga : Nat → Option Nat := fun j => if j < 4 then some (17 + j) else none
def zf_same (w w2 : zw_W) : Prop := ∀ k, w2[k + 39]? = w[k + 39]?
theorem zs_ok.same {w w2 : zw_W} {g : Nat → Option Nat} {dc dn : Nat → Nat} {df : Nat → Nat → Int64} (h : zs_ok w g dc dn df) (hw : zf_same w w2) : zs_ok w2 g dc dn df := h.keep (fun j x hj hx => by
  obtain ⟨k, rfl⟩ : ∃ k, j = k + 39 := ⟨j - 39, by omega⟩
  rw [hw k]
  exact hx)
/-- the same, of the cells behind a written-out front: o cells ahead of the documents -/
def zs_okR (o : Nat) (r : zw_W) (g : Nat → Option Nat) (dc dn : Nat → Nat) (df : Nat → Nat → Int64) : Prop := ∀ id, id < 32 → ∀ x, g id = some x → (∃ q, x = q + 40 ∧ r[q + o]? = some (.inr (6, [.int (nI (dc id)), .ref (q + 41)])) ∧ r[q + o + 1]? = some (zk_L (dn id) (df id))) ∧ dn id ≤ 20 ∧ dc id < 4
theorem zs_okR.ok {o : Nat} {r front : zw_W} {g : Nat → Option Nat} {dc dn : Nat → Nat} {df : Nat → Nat → Int64} (h : zs_okR o r g dc dn df) (hf : front.length + o = 39) : zs_ok (front ++ r) g dc dn df := fun id hid x hx => by
  obtain ⟨⟨q, rfl, h1, h2⟩, h3⟩ := h id hid x hx
  refine ⟨⟨q + 39, rfl, by omega, ?_, ?_⟩, h3⟩
  · rw [List.getElem?_append_right (by omega), show q + 39 - front.length = q + o by omega]
    exact h1
  · rw [List.getElem?_append_right (by omega), show q + 39 + 1 - front.length = q + o + 1 by omega]
    exact h2
theorem zs_okR.cons {o : Nat} {r : zw_W} {c : zw_C} {g : Nat → Option Nat} {dc dn : Nat → Nat} {df : Nat → Nat → Int64} (h : zs_okR o r g dc dn df) : zs_okR (o + 1) (c :: r) g dc dn df := h
theorem zf_upI {f d : Nat → Int32} {k : Nat} : upd (fun j => if j < k then d j else f j) k (d k) = fun j => if j < k + 1 then d j else f j := by
  funext j
  show (if j = k then d k else if j < k then d j else f j) = if j < k + 1 then d j else f j
  by_cases h : j = k
  · rw [if_pos h, if_pos (by omega), h]
  · rw [if_neg h]
    by_cases h2 : j < k
    · rw [if_pos h2, if_pos (by omega)]
    · rw [if_neg h2, if_neg (by omega)]
theorem zf_if0 {α : Type} {f d : Nat → α} : (fun j => if j < 0 then d j else f j) = f := funext fun j => if_neg (Nat.not_lt_zero j)
/-- the numbers that a chance is made of -/
def zc_D (g : Nat → Option Nat) (dc : Nat → Nat) (c : Nat) : Nat := zs_sum g dc c (fun _ => 1) 32
def zc_T (g : Nat → Option Nat) (dc dn : Nat → Nat) (df : Nat → Nat → Int64) (c : Nat) (x : Int64) : Nat := zs_sum g dc c (fun id => wn_sum (fun j => if df id j = x then 1 else 0) (dn id)) 32
noncomputable def zc_E (g : Nat → Option Nat) (dc dn : Nat → Nat) (df : Nat → Nat → Int64) (c : Nat) : Nat := zs_sum g dc c dn 32 + zv_cnt (fun d => g d ≠ none) dn df 32 0 + 1
def zc_prod (d : Nat) (nu : Nat → Nat) (de : Nat) : Nat → Nat
  | 0 => d
  | k + 1 => zc_prod d nu de k * nu k * de
theorem zc_prod_le {d de k : Nat} {nu : Nat → Nat} (hd : d ≤ 10) (hn : ∀ j, j < k → nu j ≤ 201) (he : de ≤ 401) : zc_prod d nu de k ≤ 10 * 80601 ^ k := by
  induction k with
  | zero => simpa [zc_prod] using hd
  | succ k ih =>
    have h1 := ih (fun j hj => hn j (by omega))
    have h2 := hn k (by omega)
    have h3 : zc_prod d nu de k * nu k ≤ 10 * 80601 ^ k * 201 := Nat.mul_le_mul h1 h2
    have h4 : zc_prod d nu de k * nu k * de ≤ 10 * 80601 ^ k * 201 * 401 := Nat.mul_le_mul h3 he
    rw [zc_prod, Nat.pow_succ]
    omega
theorem zc_pow {k : Nat} (hk : k ≤ 20) : 10 * 80601 ^ k ≤ 10 * 80601 ^ 20 := Nat.mul_le_mul_left _ (Nat.pow_le_pow_right (by decide) hk)
theorem zc_fit : 10 * 80601 ^ 20 < 4294967296 ^ 12 ∧ 10 * 80601 ^ 19 * 201 < 4294967296 ^ 12 := by decide +kernel
theorem zc_fit1 {d de k : Nat} {nu : Nat → Nat} (hd : d ≤ 10) (hn : ∀ j, j < k + 1 → nu j ≤ 201) (he : de ≤ 401) (hk : k < 20) : zc_prod d nu de k * nu k < 4294967296 ^ 12 := by
  have h1 := zc_prod_le hd (fun j hj => hn j (by omega)) he (k := k)
  have h2 : 80601 ^ k ≤ 80601 ^ 19 := Nat.pow_le_pow_right (by decide) (by omega)
  have h3 : zc_prod d nu de k * nu k ≤ 10 * 80601 ^ k * 201 := Nat.mul_le_mul h1 (hn k (by omega))
  have h4 := zc_fit.2
  have h5 : 10 * 80601 ^ k * 201 ≤ 10 * 80601 ^ 19 * 201 := Nat.mul_le_mul_right _ (Nat.mul_le_mul_left _ h2)
  omega
theorem zc_fit2 {d de k : Nat} {nu : Nat → Nat} (hd : d ≤ 10) (hn : ∀ j, j < k → nu j ≤ 201) (he : de ≤ 401) (hk : k ≤ 20) : zc_prod d nu de k < 4294967296 ^ 12 := by
  have h1 := zc_prod_le hd hn he
  have h2 := zc_pow hk
  have h3 := zc_fit.1
  omega
/-- a product's limbs hold a number -/
def zc_is (f : Nat → Int64) (v : Nat) : Prop := ∃ F : Nat → Nat, (∀ j, j < 12 → F j < 4294967296) ∧ (∀ j, j < 12 → f j = lN (F j)) ∧ wv 4294967296 F 12 = v
set_option maxHeartbeats 4000000 in
set_option maxRecDepth 100000 in
theorem c_Product_init1 {G : zw_G} {c0 c1 c2 c3 c4 c5 c6 c7 c8 c9 c10 c11 c12 c13 c14 c15 c16 c17 c18 c19 c20 : zw_C} : zw_Met G Y_Product_init 1 1 12 [.ref 22] ([c0, c1, c2, c3, c4, c5, c6, c7, c8, c9, c10, c11, c12, c13, c14, c15, c16, c17, c18, c19, c20, .inr (5, [.null])]) (zw_is none [c0, c1, c2, c3, c4, c5, c6, c7, c8, c9, c10, c11, c12, c13, c14, c15, c16, c17, c18, c19, c20, zk_P 21, zk_L 12 (fun _ => 0)]) := by
  show zw_Z G Y_Product_init _ _ _ 0 0 0 [some (.ref 22)] [] _
  refine zr_aload_n dProduct_init_0 rfl rfl ?_
  refine zr_objInit o_Product_1 t_oi t_oc dProduct_init_1 (by decide) ?_
  refine zr_aload_n dProduct_init_4 rfl rfl ?_
  refine zr_bipush (v := nI 12) dProduct_init_5 (by decide) ?_
  refine zr_newL t_arrL dProduct_init_7 (by decide) (by decide) ?_
  refine zr_putF f_Product_9 rfl dProduct_init_9 rfl (Nat.le_of_ble_eq_true rfl) (fun _ => rfl) (fun _ => rfl) ?_
  exact zr_return dProduct_init_12 rfl (⟨rfl, rfl⟩)
set_option maxHeartbeats 4000000 in
set_option maxRecDepth 100000 in
theorem c_Product_init2 {G : zw_G} {c0 c1 c2 c3 c4 c5 c6 c7 c8 c9 c10 c11 c12 c13 c14 c15 c16 c17 c18 c19 c20 c21 c22 : zw_C} : zw_Met G Y_Product_init 1 1 12 [.ref 24] ([c0, c1, c2, c3, c4, c5, c6, c7, c8, c9, c10, c11, c12, c13, c14, c15, c16, c17, c18, c19, c20, c21, c22, .inr (5, [.null])]) (zw_is none [c0, c1, c2, c3, c4, c5, c6, c7, c8, c9, c10, c11, c12, c13, c14, c15, c16, c17, c18, c19, c20, c21, c22, zk_P 23, zk_L 12 (fun _ => 0)]) := by
  show zw_Z G Y_Product_init _ _ _ 0 0 0 [some (.ref 24)] [] _
  refine zr_aload_n dProduct_init_0 rfl rfl ?_
  refine zr_objInit o_Product_1 t_oi t_oc dProduct_init_1 (by decide) ?_
  refine zr_aload_n dProduct_init_4 rfl rfl ?_
  refine zr_bipush (v := nI 12) dProduct_init_5 (by decide) ?_
  refine zr_newL t_arrL dProduct_init_7 (by decide) (by decide) ?_
  refine zr_putF f_Product_9 rfl dProduct_init_9 rfl (Nat.le_of_ble_eq_true rfl) (fun _ => rfl) (fun _ => rfl) ?_
  exact zr_return dProduct_init_12 rfl (⟨rfl, rfl⟩)
theorem c_Product_start2 {G : zw_G} {w : zw_W} {i v : Nat} {f : Nat → Int64} (hv : v < 4294967296 / 2) (hi : w[i]? = some (zk_P i)) (hj : w[i + 1]? = some (zk_L 12 f)) : zw_Met G Y_Product_start 1 0 0 [.ref (i + 1), .int (nI v)] w (fun r w2 => r = none ∧ ∃ f2, w2 = w.set (i + 1) (zk_L 12 f2) ∧ zc_is f2 v) := by
  refine zw_Met.post (c_Product_start (by omega) hi hj) (fun r w2 hp => ?_)
  obtain ⟨h1, f2, h2, h3⟩ := hp
  refine ⟨h1, f2, h2, fun j => if j = 0 then v else 0, fun j _ => ?_, h3, ?_⟩
  · show (if j = 0 then v else 0) < 4294967296
    split <;> omega
  · simp [wv]
theorem c_Product_times2 {G : zw_G} {w : zw_W} {i v q : Nat} {f : Nat → Int64} (hq : q < 2 ^ 31) (hv : zc_is f v) (hb : v * q < 4294967296 ^ 12) (hi : w[i]? = some (zk_P i)) (hj : w[i + 1]? = some (zk_L 12 f)) : zw_Met G Y_Product_times 0 0 0 [.ref (i + 1), .int (nI q)] w (fun r w2 => r = none ∧ ∃ f2, w2 = w.set (i + 1) (zk_L 12 f2) ∧ zc_is f2 (v * q)) := by
  obtain ⟨F, hF, hf, hw⟩ := hv
  refine zw_Met.post (c_Product_times hq hF hf hi hj) (fun r w2 hp => ?_)
  obtain ⟨rfl, rfl⟩ := hp
  refine ⟨rfl, _, rfl, fun j => (F j * q + wv_c 4294967296 q F j) % 4294967296, fun j _ => Nat.mod_lt _ (by decide), fun j hj => if_pos hj, ?_⟩
  rw [wv_prod (by decide) (by rw [hw]; exact hb), hw]
set_option maxHeartbeats 4000000 in
set_option maxRecDepth 100000 in
theorem c_Chances_multiplyOut {G : zw_G} {w : zw_W} {i n wc a b dv de : Nat} {fd fe fa : Nat → Int32} {f : Nat → Int64} {nu : Nat → Nat} (hi20 : 20 < i) (ha : a < 4) (hb : b < 4) (hwc : wc ≤ 20) (hch : w[13]? = some (zk_Ch n wc)) (hfd : w[14]? = some (zk_I 4 fd)) (hA : w[15]? = some (zk_A 4 zk_ga)) (hrow : w[16 + a]? = some (zk_I 20 fa)) (hfe : w[20]? = some (zk_I 4 fe)) (hi : w[i]? = some (zk_P i)) (hj : w[i + 1]? = some (zk_L 12 f)) (hd : fd a = nI dv) (hn : ∀ k, k < wc → fa k = nI (nu k)) (he : fe b = nI de) (hd10 : dv ≤ 10) (hn201 : ∀ k, k < wc → nu k ≤ 201) (he401 : de ≤ 401) : zw_Met G Y_Chances_multiplyOut 2 0 0 [.ref 14, .ref (i + 1), .int (nI a), .int (nI b)] w (fun v w2 => v = none ∧ ∃ f2, w2 = w.set (i + 1) (zk_L 12 f2) ∧ zc_is f2 (zc_prod dv nu de wc)) := by
  have hl : i + 1 < w.length := (List.getElem?_eq_some_iff.mp hj).1
  have key : ∀ k, k ≤ wc → ∀ f1, zc_is f1 (zc_prod dv nu de k) → zw_Z G Y_Chances_multiplyOut (zw_R 2 0 0) (fun _ => True) (zw_Q G 0 0 (fun v w2 => v = none ∧ ∃ f2, w2 = w.set (i + 1) (zk_L 12 f2) ∧ zc_is f2 (zc_prod dv nu de wc))) 0 0 13 [some (.ref 14), some (.ref (i + 1)), some (.int (nI a)), some (.int (nI b)), some (.int (nI k))] [] (w.set (i + 1) (zk_L 12 f1)) := by
    refine wz_up wc (fun k hk ih => ?_) ?_
    · intro f1 hf1
      have g1 := zc_fit1 hd10 (fun j hj => hn201 j (by omega)) he401 (k := k) (by omega)
      have g2 := zc_fit2 hd10 (fun j hj => hn201 j (by omega)) he401 (k := k + 1) (by omega)
      have g3 := hn201 k hk
      refine zr_iload dChances_multiplyOut_13 rfl ?_
      refine zr_aload_n dChances_multiplyOut_15 rfl rfl ?_
      refine zr_getf g_Chances_37 dChances_multiplyOut_16 (by rw [List.getElem?_set_ne (by omega)]; exact hch) rfl ?_
      refine zr_icmp_geN (tgt := 51) (by omega) (by omega) dChances_multiplyOut_19 (by decide) (fun h19 => ?_) (fun h19 => ?_)
      · exfalso; omega
      · refine zr_aload_n dChances_multiplyOut_22 rfl rfl ?_
        refine zr_aload_n dChances_multiplyOut_23 rfl rfl ?_
        refine zr_getf g_Chances_17 dChances_multiplyOut_24 (by rw [List.getElem?_set_ne (by omega)]; exact hch) rfl ?_
        refine zr_iload_n dChances_multiplyOut_27 rfl ?_
        refine zr_aaldA dChances_multiplyOut_28 (by rw [List.getElem?_set_ne (by omega)]; exact hA) (ha) (by decide) ?_
        refine zr_top (show va_rf (zk_ga a) = Value.ref (16 + a + 1) from by unfold zk_ga; rw [if_pos ha, show 17 + a = 16 + a + 1 by omega]; rfl) ?_
        refine zr_iload dChances_multiplyOut_29 rfl ?_
        refine zr_iald dChances_multiplyOut_31 (by rw [List.getElem?_set_ne (by omega)]; exact hrow) (by omega) (by decide) ?_
        refine zr_topI (hn k hk) ?_
        refine zr_invV (c_Product_times2 (by omega) hf1 g1 (by rw [List.getElem?_set_ne (by omega)]; exact hi) (List.getElem?_set_self hl)) m_Product_times k_Chances_83 v_Product_times rfl (by rw [List.getElem?_set_ne (by omega)]; exact hi) dChances_multiplyOut_32 rfl (Nat.le_of_ble_eq_true rfl) (by decide) (Nat.le_of_ble_eq_true rfl) rfl (fun v w2 hp => ?_)
        obtain ⟨rfl, f2, rfl, hf2⟩ := hp
        refine ⟨by rw [List.length_set, List.length_set]; rfl, ?_⟩
        rw [List.set_set]
        refine zr_aload_n dChances_multiplyOut_35 rfl rfl ?_
        refine zr_aload_n dChances_multiplyOut_36 rfl rfl ?_
        refine zr_getf g_Chances_20 dChances_multiplyOut_37 (by rw [List.getElem?_set_ne (by omega)]; exact hch) rfl ?_
        refine zr_iload_n dChances_multiplyOut_40 rfl ?_
        refine zr_iald dChances_multiplyOut_41 (by rw [List.getElem?_set_ne (by omega)]; exact hfe) (hb) (by decide) ?_
        refine zr_topI he ?_
        refine zr_invV (c_Product_times2 (by omega) hf2 g2 (by rw [List.getElem?_set_ne (by omega)]; exact hi) (List.getElem?_set_self hl)) m_Product_times k_Chances_83 v_Product_times rfl (by rw [List.getElem?_set_ne (by omega)]; exact hi) dChances_multiplyOut_42 rfl (Nat.le_of_ble_eq_true rfl) (by decide) (Nat.le_of_ble_eq_true rfl) rfl (fun v w2 hp => ?_)
        obtain ⟨rfl, f3, rfl, hf3⟩ := hp
        refine ⟨by rw [List.length_set, List.length_set]; rfl, ?_⟩
        rw [List.set_set]
        refine zr_iinc (v := nI (k + 1)) dChances_multiplyOut_45 rfl (nI_1 _) (by decide) ?_
        refine zr_goto (tgt := 13) dChances_multiplyOut_48 (by decide) ?_
        exact ih _ hf3
    · intro f1 hf1
      refine zr_iload dChances_multiplyOut_13 rfl ?_
      refine zr_aload_n dChances_multiplyOut_15 rfl rfl ?_
      refine zr_getf g_Chances_37 dChances_multiplyOut_16 (by rw [List.getElem?_set_ne (by omega)]; exact hch) rfl ?_
      refine zr_icmp_geN (tgt := 51) (by omega) (by omega) dChances_multiplyOut_19 (by decide) (fun h19 => ?_) (fun h19 => ?_)
      · exact zr_return dChances_multiplyOut_51 rfl (⟨rfl, _, rfl, hf1⟩)
      · exfalso; omega
  show zw_Z G Y_Chances_multiplyOut _ _ _ 0 0 0 [some (.ref 14), some (.ref (i + 1)), some (.int (nI a)), some (.int (nI b)), none] [] _
  refine zr_aload_n dChances_multiplyOut_0 rfl rfl ?_
  refine zr_aload_n dChances_multiplyOut_1 rfl rfl ?_
  refine zr_getf g_Chances_9 dChances_multiplyOut_2 hch rfl ?_
  refine zr_iload_n dChances_multiplyOut_5 rfl ?_
  refine zr_iald dChances_multiplyOut_6 hfd (ha) (by decide) ?_
  refine zr_topI hd ?_
  refine zr_invV (c_Product_start2 (by omega) hi hj) m_Product_start k_Chances_79 v_Product_start rfl hi dChances_multiplyOut_7 rfl (Nat.le_of_ble_eq_true rfl) (by decide) (Nat.le_of_ble_eq_true rfl) rfl (fun v w2 hp => ?_)
  obtain ⟨rfl, f0, rfl, hf0⟩ := hp
  refine ⟨by rw [List.length_set]; rfl, ?_⟩
  refine zr_iconst (v := nI 0) dChances_multiplyOut_10 (by decide) ?_
  refine zr_istore dChances_multiplyOut_11 (by decide) ?_
  exact key 0 (Nat.zero_le wc) _ hf0
/-- class a's side against class b's -/
def zc_side (dv de : Nat → Nat) (nu : Nat → Nat → Nat) (wc a b : Nat) : Nat := zc_prod (dv a) (nu a) (de b) wc
def zc_sgn (dv de : Nat → Nat) (nu : Nat → Nat → Nat) (wc a b : Nat) : Int32 := zf_sgn (zc_side dv de nu wc a b) (zc_side dv de nu wc b a)
/-- does class q stand ahead of class c -/
def zc_ahead (sg : Nat → Nat → Int32) (q c : Nat) : Prop := 0 < sg q c ∨ sg q c = 0 ∧ q < c
def zc_place (sg : Nat → Nat → Int32) (c n : Nat) : Nat := wn_sum (fun q => if 0 < sg q c ∨ sg q c = 0 ∧ q < c then 1 else 0) n
theorem zc_place_1 {sg : Nat → Nat → Int32} {c n : Nat} (h : zc_ahead sg n c) : zc_place sg c (n + 1) = zc_place sg c n + 1 := by unfold zc_place; rw [wn_sum]; congr 1; exact if_pos h
theorem zc_place_0 {sg : Nat → Nat → Int32} {c n : Nat} (h : ¬ zc_ahead sg n c) : zc_place sg c (n + 1) = zc_place sg c n := by unfold zc_place; rw [wn_sum]; exact (congrArg (fun z => _ + z) (if_neg h)).trans (Nat.add_zero _)
/-- the class at a place -/
def zc_at (sg : Nat → Nat → Int32) (n : Nat) (k : Int32) (v : Int32) : Prop := (∃ c, c < n ∧ v = nI c ∧ nI (zc_place sg c n) = k ∧ ∀ b, b < c → nI (zc_place sg b n) ≠ k) ∨ (v = -1 ∧ ∀ c, c < n → nI (zc_place sg c n) ≠ k)
set_option maxHeartbeats 4000000 in
set_option maxRecDepth 100000 in
theorem c_Chances_signOf {G : zw_G} {c0 c1 c2 c3 c4 c5 c6 c7 c8 c9 c10 c11 c12 : zw_C} {r : zw_W} {n wc : Nat} {fd fe : Nat → Int32} {fr : Nat → Nat → Int32} {f1 f2 : Nat → Int64} {dv de : Nat → Nat} {nu : Nat → Nat → Nat} (hn4 : n ≤ 4) (hwc : wc ≤ 20) (hd : ∀ c, c < n → fd c = nI (dv c)) (he : ∀ c, c < n → fe c = nI (de c)) (hr : ∀ c, c < n → ∀ k, k < wc → fr c k = nI (nu c k)) (hd10 : ∀ c, c < n → dv c ≤ 10) (he401 : ∀ c, c < n → de c ≤ 401) (hn201 : ∀ c, c < n → ∀ k, k < wc → nu c k ≤ 201) {a b : Nat} (ha : a < n) (hb : b < n) : zw_Met G Y_Chances_signOf 3 0 0 [.ref 14, .int (nI a), .int (nI b)] (c0 :: c1 :: c2 :: c3 :: c4 :: c5 :: c6 :: c7 :: c8 :: c9 :: c10 :: c11 :: c12 :: zk_Ch n wc :: zk_I 4 fd :: zk_A 4 zk_ga :: zk_I 20 (fr 0) :: zk_I 20 (fr 1) :: zk_I 20 (fr 2) :: zk_I 20 (fr 3) :: zk_I 4 fe :: zk_P 21 :: zk_L 12 f1 :: zk_P 23 :: zk_L 12 f2 :: r) (fun v w2 => v = some (.int (zc_sgn dv de nu wc a b)) ∧ ∃ g1 g2, w2 = (c0 :: c1 :: c2 :: c3 :: c4 :: c5 :: c6 :: c7 :: c8 :: c9 :: c10 :: c11 :: c12 :: zk_Ch n wc :: zk_I 4 fd :: zk_A 4 zk_ga :: zk_I 20 (fr 0) :: zk_I 20 (fr 1) :: zk_I 20 (fr 2) :: zk_I 20 (fr 3) :: zk_I 4 fe :: zk_P 21 :: zk_L 12 g1 :: zk_P 23 :: zk_L 12 g2 :: r)) := by
  show zw_Z G Y_Chances_signOf _ _ _ 0 0 0 [some (.ref 14), some (.int (nI a)), some (.int (nI b))] [] _
  refine zr_aload_n dChances_signOf_0 rfl rfl ?_
  refine zr_aload_n dChances_signOf_1 rfl rfl ?_
  refine zr_getf g_Chances_26 dChances_signOf_2 rfl rfl ?_
  refine zr_iload_n dChances_signOf_5 rfl ?_
  refine zr_iload_n dChances_signOf_6 rfl ?_
  refine zr_invV (c_Chances_multiplyOut (i := 21) (a := a) (b := b) (fa := fr a) (by decide) (by omega) (by omega) hwc rfl rfl rfl (by rcases (show a = 0 ∨ a = 1 ∨ a = 2 ∨ a = 3 by omega) with rfl | rfl | rfl | rfl <;> rfl) rfl rfl rfl (hd a (by omega)) (hr a (by omega)) (he b (by omega)) (hd10 a (by omega)) (hn201 a (by omega)) (he401 b (by omega))) m_Chances_multiplyOut k_Chances_71 v_Chances_multiplyOut rfl rfl dChances_signOf_7 rfl (Nat.le_of_ble_eq_true rfl) (by decide) (Nat.le_of_ble_eq_true rfl) rfl (fun v w2 hp => ?_)
  obtain ⟨rfl, g1, rfl, hg1⟩ := hp
  refine ⟨by rfl, ?_⟩
  refine zr_aload_n dChances_signOf_10 rfl rfl ?_
  refine zr_aload_n dChances_signOf_11 rfl rfl ?_
  refine zr_getf g_Chances_30 dChances_signOf_12 rfl rfl ?_
  refine zr_iload_n dChances_signOf_15 rfl ?_
  refine zr_iload_n dChances_signOf_16 rfl ?_
  refine zr_invV (c_Chances_multiplyOut (i := 23) (a := b) (b := a) (fa := fr b) (by decide) (by omega) (by omega) hwc rfl rfl rfl (by rcases (show b = 0 ∨ b = 1 ∨ b = 2 ∨ b = 3 by omega) with rfl | rfl | rfl | rfl <;> rfl) rfl rfl rfl (hd b (by omega)) (hr b (by omega)) (he a (by omega)) (hd10 b (by omega)) (hn201 b (by omega)) (he401 a (by omega))) m_Chances_multiplyOut k_Chances_71 v_Chances_multiplyOut rfl rfl dChances_signOf_17 rfl (Nat.le_of_ble_eq_true rfl) (by decide) (Nat.le_of_ble_eq_true rfl) rfl (fun v w2 hp => ?_)
  obtain ⟨rfl, g2, rfl, hg2⟩ := hp
  obtain ⟨F1, a1, a2, a3⟩ := hg1
  obtain ⟨F2, b1, b2, b3⟩ := hg2
  refine ⟨by rfl, ?_⟩
  refine zr_aload_n dChances_signOf_20 rfl rfl ?_
  refine zr_getf g_Chances_26 dChances_signOf_21 rfl rfl ?_
  refine zr_aload_n dChances_signOf_24 rfl rfl ?_
  refine zr_getf g_Chances_30 dChances_signOf_25 rfl rfl ?_
  refine zr_invV (c_Product_signAgainst (i := 21) (i2 := 23) a1 b1 a2 b2 rfl rfl rfl rfl) m_Product_signAgainst k_Chances_75 v_Product_signAgainst rfl rfl dChances_signOf_28 rfl (Nat.le_of_ble_eq_true rfl) (by decide) (Nat.le_of_ble_eq_true rfl) rfl (fun v w2 hp => ?_)
  obtain ⟨rfl, rfl⟩ := hp
  refine ⟨rfl, ?_⟩
  exact zr_ireturn dChances_signOf_31 rfl rfl (⟨congrArg (fun x => some (Value.int x)) (by rw [a3, b3]; rfl), g1, g2, rfl⟩)
set_option maxHeartbeats 4000000 in
set_option maxRecDepth 100000 in
theorem c_Chances_placeOf {G : zw_G} {c0 c1 c2 c3 c4 c5 c6 c7 c8 c9 c10 c11 c12 : zw_C} {r : zw_W} {n wc : Nat} {fd fe : Nat → Int32} {fr : Nat → Nat → Int32} {dv de : Nat → Nat} {nu : Nat → Nat → Nat} (hn4 : n ≤ 4) (hwc : wc ≤ 20) (hd : ∀ c, c < n → fd c = nI (dv c)) (he : ∀ c, c < n → fe c = nI (de c)) (hr : ∀ c, c < n → ∀ k, k < wc → fr c k = nI (nu c k)) (hd10 : ∀ c, c < n → dv c ≤ 10) (he401 : ∀ c, c < n → de c ≤ 401) (hn201 : ∀ c, c < n → ∀ k, k < wc → nu c k ≤ 201) {f1 f2 : Nat → Int64} {c : Nat} (hc : c < n) : zw_Met G Y_Chances_placeOf 4 0 0 [.ref 14, .int (nI c)] (c0 :: c1 :: c2 :: c3 :: c4 :: c5 :: c6 :: c7 :: c8 :: c9 :: c10 :: c11 :: c12 :: zk_Ch n wc :: zk_I 4 fd :: zk_A 4 zk_ga :: zk_I 20 (fr 0) :: zk_I 20 (fr 1) :: zk_I 20 (fr 2) :: zk_I 20 (fr 3) :: zk_I 4 fe :: zk_P 21 :: zk_L 12 f1 :: zk_P 23 :: zk_L 12 f2 :: r) (fun v w2 => v = some (.int (nI (zc_place (zc_sgn dv de nu wc) c n))) ∧ ∃ g1 g2, w2 = (c0 :: c1 :: c2 :: c3 :: c4 :: c5 :: c6 :: c7 :: c8 :: c9 :: c10 :: c11 :: c12 :: zk_Ch n wc :: zk_I 4 fd :: zk_A 4 zk_ga :: zk_I 20 (fr 0) :: zk_I 20 (fr 1) :: zk_I 20 (fr 2) :: zk_I 20 (fr 3) :: zk_I 4 fe :: zk_P 21 :: zk_L 12 g1 :: zk_P 23 :: zk_L 12 g2 :: r)) := by
  have key : ∀ k, k ≤ n → ∀ f1 f2, zw_Z G Y_Chances_placeOf (zw_R 4 0 0) (fun _ => True) (zw_Q G 0 0 (fun v w2 => v = some (.int (nI (zc_place (zc_sgn dv de nu wc) c n))) ∧ ∃ g1 g2, w2 = (c0 :: c1 :: c2 :: c3 :: c4 :: c5 :: c6 :: c7 :: c8 :: c9 :: c10 :: c11 :: c12 :: zk_Ch n wc :: zk_I 4 fd :: zk_A 4 zk_ga :: zk_I 20 (fr 0) :: zk_I 20 (fr 1) :: zk_I 20 (fr 2) :: zk_I 20 (fr 3) :: zk_I 4 fe :: zk_P 21 :: zk_L 12 g1 :: zk_P 23 :: zk_L 12 g2 :: r))) 0 0 4 [some (.ref 14), some (.int (nI c)), some (.int (nI (zc_place (zc_sgn dv de nu wc) c k))), some (.int (nI k)), none] [] (c0 :: c1 :: c2 :: c3 :: c4 :: c5 :: c6 :: c7 :: c8 :: c9 :: c10 :: c11 :: c12 :: zk_Ch n wc :: zk_I 4 fd :: zk_A 4 zk_ga :: zk_I 20 (fr 0) :: zk_I 20 (fr 1) :: zk_I 20 (fr 2) :: zk_I 20 (fr 3) :: zk_I 4 fe :: zk_P 21 :: zk_L 12 f1 :: zk_P 23 :: zk_L 12 f2 :: r) := by
    refine wz_up n (fun k hk ih => ?_) ?_
    · intro f1 f2
      refine zr_iload_n dChances_placeOf_4 rfl ?_
      refine zr_aload_n dChances_placeOf_5 rfl rfl ?_
      refine zr_getf g_Chances_33 dChances_placeOf_6 rfl rfl ?_
      refine zr_icmp_geN (tgt := 44) (by omega) (by omega) dChances_placeOf_9 (by decide) (fun h9 => ?_) (fun h9 => ?_)
      · exfalso; omega
      · refine zr_aload_n dChances_placeOf_12 rfl rfl ?_
        refine zr_iload_n dChances_placeOf_13 rfl ?_
        refine zr_iload_n dChances_placeOf_14 rfl ?_
        refine zr_invV (c_Chances_signOf hn4 hwc hd he hr hd10 he401 hn201 hk hc) m_Chances_signOf k_Chances_67 v_Chances_signOf rfl rfl dChances_placeOf_15 rfl (Nat.le_of_ble_eq_true rfl) (by decide) (Nat.le_of_ble_eq_true rfl) rfl (fun v w2 hp => ?_)
        obtain ⟨rfl, g1, g2, rfl⟩ := hp
        refine ⟨by rfl, ?_⟩
        refine zr_istore dChances_placeOf_18 (by decide) ?_
        refine zr_iload dChances_placeOf_20 rfl ?_
        refine zr_if_gt (tgt := 35) dChances_placeOf_22 (by decide) (fun h22 => ?_) (fun h22 => ?_)
        · rw [zc_place_1 (Or.inl h22)] at ih
          refine zr_iinc (v := nI (zc_place (zc_sgn dv de nu wc) c k + 1)) dChances_placeOf_35 rfl (nI_1 _) (by decide) ?_
          refine zr_iinc (v := nI (k + 1)) dChances_placeOf_38 rfl (nI_1 _) (by decide) ?_
          refine zr_goto (tgt := 4) dChances_placeOf_41 (by decide) ?_
          exact zr_mask [true, true, true, true, false] (ih _ _)
        · refine zr_iload dChances_placeOf_25 rfl ?_
          refine zr_if_ne (tgt := 38) dChances_placeOf_27 (by decide) (fun h27 => ?_) (fun h27 => ?_)
          · rw [zc_place_0 (fun q => q.elim h22 (fun z => h27 z.1))] at ih
            refine zr_iinc (v := nI (k + 1)) dChances_placeOf_38 rfl (nI_1 _) (by decide) ?_
            refine zr_goto (tgt := 4) dChances_placeOf_41 (by decide) ?_
            exact zr_mask [true, true, true, true, false] (ih _ _)
          · refine zr_iload_n dChances_placeOf_30 rfl ?_
            refine zr_iload_n dChances_placeOf_31 rfl ?_
            refine zr_icmp_geN (tgt := 38) (by omega) (by omega) dChances_placeOf_32 (by decide) (fun h32 => ?_) (fun h32 => ?_)
            · rw [zc_place_0 (fun q => q.elim h22 (fun z => by omega))] at ih
              refine zr_iinc (v := nI (k + 1)) dChances_placeOf_38 rfl (nI_1 _) (by decide) ?_
              refine zr_goto (tgt := 4) dChances_placeOf_41 (by decide) ?_
              exact zr_mask [true, true, true, true, false] (ih _ _)
            · rw [zc_place_1 (Or.inr ⟨h27, h32⟩)] at ih
              refine zr_iinc (v := nI (zc_place (zc_sgn dv de nu wc) c k + 1)) dChances_placeOf_35 rfl (nI_1 _) (by decide) ?_
              refine zr_iinc (v := nI (k + 1)) dChances_placeOf_38 rfl (nI_1 _) (by decide) ?_
              refine zr_goto (tgt := 4) dChances_placeOf_41 (by decide) ?_
              exact zr_mask [true, true, true, true, false] (ih _ _)
    · intro f1 f2
      refine zr_iload_n dChances_placeOf_4 rfl ?_
      refine zr_aload_n dChances_placeOf_5 rfl rfl ?_
      refine zr_getf g_Chances_33 dChances_placeOf_6 rfl rfl ?_
      refine zr_icmp_geN (tgt := 44) (by omega) (by omega) dChances_placeOf_9 (by decide) (fun h9 => ?_) (fun h9 => ?_)
      · refine zr_iload_n dChances_placeOf_44 rfl ?_
        exact zr_ireturn dChances_placeOf_45 rfl rfl (⟨rfl, f1, f2, rfl⟩)
      · exfalso; omega
  show zw_Z G Y_Chances_placeOf _ _ _ 0 0 0 [some (.ref 14), some (.int (nI c)), none, none, none] [] _
  refine zr_iconst (v := nI 0) dChances_placeOf_0 (by decide) ?_
  refine zr_istore_n dChances_placeOf_1 (by decide) ?_
  refine zr_iconst (v := nI 0) dChances_placeOf_2 (by decide) ?_
  refine zr_istore_n dChances_placeOf_3 (by decide) ?_
  exact key 0 (Nat.zero_le n) _ _
set_option maxHeartbeats 4000000 in
set_option maxRecDepth 100000 in
theorem c_Chances_classAt {G : zw_G} {c0 c1 c2 c3 c4 c5 c6 c7 c8 c9 c10 c11 c12 : zw_C} {r : zw_W} {n wc : Nat} {fd fe : Nat → Int32} {fr : Nat → Nat → Int32} {dv de : Nat → Nat} {nu : Nat → Nat → Nat} (hn4 : n ≤ 4) (hwc : wc ≤ 20) (hd : ∀ c, c < n → fd c = nI (dv c)) (he : ∀ c, c < n → fe c = nI (de c)) (hr : ∀ c, c < n → ∀ k, k < wc → fr c k = nI (nu c k)) (hd10 : ∀ c, c < n → dv c ≤ 10) (he401 : ∀ c, c < n → de c ≤ 401) (hn201 : ∀ c, c < n → ∀ k, k < wc → nu c k ≤ 201) {f1 f2 : Nat → Int64} {x : Int32} : zw_Met G Y_Chances_classAt 5 0 0 [.ref 14, .int x] (c0 :: c1 :: c2 :: c3 :: c4 :: c5 :: c6 :: c7 :: c8 :: c9 :: c10 :: c11 :: c12 :: zk_Ch n wc :: zk_I 4 fd :: zk_A 4 zk_ga :: zk_I 20 (fr 0) :: zk_I 20 (fr 1) :: zk_I 20 (fr 2) :: zk_I 20 (fr 3) :: zk_I 4 fe :: zk_P 21 :: zk_L 12 f1 :: zk_P 23 :: zk_L 12 f2 :: r) (fun v w2 => (∃ y, v = some (.int y) ∧ zc_at (zc_sgn dv de nu wc) n x y) ∧ ∃ g1 g2, w2 = (c0 :: c1 :: c2 :: c3 :: c4 :: c5 :: c6 :: c7 :: c8 :: c9 :: c10 :: c11 :: c12 :: zk_Ch n wc :: zk_I 4 fd :: zk_A 4 zk_ga :: zk_I 20 (fr 0) :: zk_I 20 (fr 1) :: zk_I 20 (fr 2) :: zk_I 20 (fr 3) :: zk_I 4 fe :: zk_P 21 :: zk_L 12 g1 :: zk_P 23 :: zk_L 12 g2 :: r)) := by
  have key : ∀ k, k ≤ n → (∀ b, b < k → nI (zc_place (zc_sgn dv de nu wc) b n) ≠ x) → ∀ f1 f2, zw_Z G Y_Chances_classAt (zw_R 5 0 0) (fun _ => True) (zw_Q G 0 0 (fun v w2 => (∃ y, v = some (.int y) ∧ zc_at (zc_sgn dv de nu wc) n x y) ∧ ∃ g1 g2, w2 = (c0 :: c1 :: c2 :: c3 :: c4 :: c5 :: c6 :: c7 :: c8 :: c9 :: c10 :: c11 :: c12 :: zk_Ch n wc :: zk_I 4 fd :: zk_A 4 zk_ga :: zk_I 20 (fr 0) :: zk_I 20 (fr 1) :: zk_I 20 (fr 2) :: zk_I 20 (fr 3) :: zk_I 4 fe :: zk_P 21 :: zk_L 12 g1 :: zk_P 23 :: zk_L 12 g2 :: r))) 0 0 2 [some (.ref 14), some (.int x), some (.int (nI k))] [] (c0 :: c1 :: c2 :: c3 :: c4 :: c5 :: c6 :: c7 :: c8 :: c9 :: c10 :: c11 :: c12 :: zk_Ch n wc :: zk_I 4 fd :: zk_A 4 zk_ga :: zk_I 20 (fr 0) :: zk_I 20 (fr 1) :: zk_I 20 (fr 2) :: zk_I 20 (fr 3) :: zk_I 4 fe :: zk_P 21 :: zk_L 12 f1 :: zk_P 23 :: zk_L 12 f2 :: r) := by
    refine wz_up n (fun k hk ih => ?_) ?_
    · intro hno f1 f2
      refine zr_iload_n dChances_classAt_2 rfl ?_
      refine zr_aload_n dChances_classAt_3 rfl rfl ?_
      refine zr_getf g_Chances_33 dChances_classAt_4 rfl rfl ?_
      refine zr_icmp_geN (tgt := 27) (by omega) (by omega) dChances_classAt_7 (by decide) (fun h7 => ?_) (fun h7 => ?_)
      · exfalso; omega
      · refine zr_aload_n dChances_classAt_10 rfl rfl ?_
        refine zr_iload_n dChances_classAt_11 rfl ?_
        refine zr_invV (c_Chances_placeOf hn4 hwc hd he hr hd10 he401 hn201 hk) m_Chances_placeOf k_Chances_64 v_Chances_placeOf rfl rfl dChances_classAt_12 rfl (Nat.le_of_ble_eq_true rfl) (by decide) (Nat.le_of_ble_eq_true rfl) rfl (fun v w2 hp => ?_)
        obtain ⟨rfl, g1, g2, rfl⟩ := hp
        refine ⟨by rfl, ?_⟩
        refine zr_iload_n dChances_classAt_15 rfl ?_
        refine zr_icmp_ne (tgt := 21) dChances_classAt_16 (by decide) (fun h16 => ?_) (fun h16 => ?_)
        · refine zr_iinc (v := nI (k + 1)) dChances_classAt_21 rfl (nI_1 _) (by decide) ?_
          refine zr_goto (tgt := 2) dChances_classAt_24 (by decide) ?_
          refine ih (fun b hb => ?_) _ _
          by_cases e : b = k
          · rw [e]; exact h16
          · exact hno b (by omega)
        · refine zr_iload_n dChances_classAt_19 rfl ?_
          exact zr_ireturn dChances_classAt_20 rfl rfl (⟨⟨_, rfl, Or.inl ⟨k, hk, rfl, h16, hno⟩⟩, g1, g2, rfl⟩)
    · intro hno f1 f2
      refine zr_iload_n dChances_classAt_2 rfl ?_
      refine zr_aload_n dChances_classAt_3 rfl rfl ?_
      refine zr_getf g_Chances_33 dChances_classAt_4 rfl rfl ?_
      refine zr_icmp_geN (tgt := 27) (by omega) (by omega) dChances_classAt_7 (by decide) (fun h7 => ?_) (fun h7 => ?_)
      · refine zr_iconst (v := (-1)) dChances_classAt_27 (by decide) ?_
        exact zr_ireturn dChances_classAt_28 rfl rfl (⟨⟨_, rfl, Or.inr ⟨rfl, hno⟩⟩, f1, f2, rfl⟩)
      · exfalso; omega
  show zw_Z G Y_Chances_classAt _ _ _ 0 0 0 [some (.ref 14), some (.int x), none] [] _
  refine zr_iconst (v := nI 0) dChances_classAt_0 (by decide) ?_
  refine zr_istore_n dChances_classAt_1 (by decide) ?_
  exact key 0 (Nat.zero_le n) (fun b hb => absurd hb (Nat.not_lt_zero b)) _ _
set_option maxHeartbeats 4000000 in
set_option maxRecDepth 100000 in
theorem c_Chances_weigh {G : zw_G} {c0 c6 c7 c8 c9 c10 c11 c12 : zw_C} {r : zw_W} {wc len run n n0 wc0 : Nat} {tw sn : Nat → Int64} {g : Nat → Option Nat} {dc dn : Nat → Nat} {df : Nat → Nat → Int64} {fd fe : Nat → Int32} {fr : Nat → Nat → Int32} (hn4 : n ≤ 4) (hwc : wc ≤ 20) (hok : zs_okR 18 r g dc dn df) (ht : zv_tot g dn 32 ≤ 200) : zw_Met G Y_Chances_weigh 3 0 0 [.ref 14, .ref 4, .ref 2, .int (nI n)] (c0 :: zk_Text wc len run :: zk_L 20 tw :: zk_Sh 3 :: zk_D 32 g :: zk_L 200 sn :: c6 :: c7 :: c8 :: c9 :: c10 :: c11 :: c12 :: zk_Ch n0 wc0 :: zk_I 4 fd :: zk_A 4 zk_ga :: zk_I 20 (fr 0) :: zk_I 20 (fr 1) :: zk_I 20 (fr 2) :: zk_I 20 (fr 3) :: zk_I 4 fe :: r) (fun v w2 => v = none ∧ ∃ (sn2 : Nat → Int64) (fd2 : Nat → Int32) (fr2 : Nat → Nat → Int32) (fe2 : Nat → Int32), w2 = (c0 :: zk_Text wc len run :: zk_L 20 tw :: zk_Sh 3 :: zk_D 32 g :: zk_L 200 sn2 :: c6 :: c7 :: c8 :: c9 :: c10 :: c11 :: c12 :: zk_Ch n wc :: zk_I 4 fd2 :: zk_A 4 zk_ga :: zk_I 20 (fr2 0) :: zk_I 20 (fr2 1) :: zk_I 20 (fr2 2) :: zk_I 20 (fr2 3) :: zk_I 4 fe2 :: r) ∧ (∀ j, j < n → fd2 j = nI (zc_D g dc j)) ∧ (∀ j, j < n → fe2 j = nI (zc_E g dc dn df j)) ∧ (∀ j, j < n → ∀ k, k < wc → fr2 j k = nI (zc_T g dc dn df j (tw k) + 1))) := by
  have lv4 : ∀ (sn1 : Nat → Int64) (fd1 fe1 : Nat → Int32) (fr1 : Nat → Nat → Int32), (∀ j, j < 4 → fd1 j = nI (zc_D g dc j)) → (∀ j, j < 4 → fe1 j = nI (zc_E g dc dn df j)) → (∀ j, j < 4 → ∀ k, k < wc → fr1 j k = nI (zc_T g dc dn df j (tw k) + 1)) → zw_Z G Y_Chances_weigh (zw_R 3 0 0) (fun _ => True) (zw_Q G 0 0 (fun v w2 => v = none ∧ ∃ (sn2 : Nat → Int64) (fd2 : Nat → Int32) (fr2 : Nat → Nat → Int32) (fe2 : Nat → Int32), w2 = (c0 :: zk_Text wc len run :: zk_L 20 tw :: zk_Sh 3 :: zk_D 32 g :: zk_L 200 sn2 :: c6 :: c7 :: c8 :: c9 :: c10 :: c11 :: c12 :: zk_Ch n wc :: zk_I 4 fd2 :: zk_A 4 zk_ga :: zk_I 20 (fr2 0) :: zk_I 20 (fr2 1) :: zk_I 20 (fr2 2) :: zk_I 20 (fr2 3) :: zk_I 4 fe2 :: r) ∧ (∀ j, j < n → fd2 j = nI (zc_D g dc j)) ∧ (∀ j, j < n → fe2 j = nI (zc_E g dc dn df j)) ∧ (∀ j, j < n → ∀ k, k < wc → fr2 j k = nI (zc_T g dc dn df j (tw k) + 1)))) 0 0 22 [some (.ref 14), some (.ref 4), some (.ref 2), some (.int (nI n)), some (.int (nI (zv_cnt (fun d => g d ≠ none) dn df 32 0))), some (.int (nI 4)), none] [] (c0 :: zk_Text wc len run :: zk_L 20 tw :: zk_Sh 3 :: zk_D 32 g :: zk_L 200 sn1 :: c6 :: c7 :: c8 :: c9 :: c10 :: c11 :: c12 :: zk_Ch n wc :: zk_I 4 fd1 :: zk_A 4 zk_ga :: zk_I 20 (fr1 0) :: zk_I 20 (fr1 1) :: zk_I 20 (fr1 2) :: zk_I 20 (fr1 3) :: zk_I 4 fe1 :: r) := by
    intro sn1 fd1 fe1 fr1 h1 h2 h3
    refine zr_iload dChances_weigh_22 rfl ?_
    refine zr_aload_n dChances_weigh_24 rfl rfl ?_
    refine zr_getf g_Chances_33 dChances_weigh_25 rfl rfl ?_
    refine zr_icmp_geN (tgt := 111) (by omega) (by omega) dChances_weigh_28 (by decide) (fun h28 => ?_) (fun h28 => ?_)
    · exact zr_return dChances_weigh_111 rfl (⟨rfl, sn1, fd1, fr1, fe1, rfl, fun j hj => h1 j (by omega), fun j hj => h2 j (by omega), fun j hj => h3 j (by omega)⟩)
    · exfalso; omega
  have lv3 : ∀ (sn1 : Nat → Int64) (fd1 fe1 : Nat → Int32) (fr1 : Nat → Nat → Int32), (∀ j, j < 3 → fd1 j = nI (zc_D g dc j)) → (∀ j, j < 3 → fe1 j = nI (zc_E g dc dn df j)) → (∀ j, j < 3 → ∀ k, k < wc → fr1 j k = nI (zc_T g dc dn df j (tw k) + 1)) → zw_Z G Y_Chances_weigh (zw_R 3 0 0) (fun _ => True) (zw_Q G 0 0 (fun v w2 => v = none ∧ ∃ (sn2 : Nat → Int64) (fd2 : Nat → Int32) (fr2 : Nat → Nat → Int32) (fe2 : Nat → Int32), w2 = (c0 :: zk_Text wc len run :: zk_L 20 tw :: zk_Sh 3 :: zk_D 32 g :: zk_L 200 sn2 :: c6 :: c7 :: c8 :: c9 :: c10 :: c11 :: c12 :: zk_Ch n wc :: zk_I 4 fd2 :: zk_A 4 zk_ga :: zk_I 20 (fr2 0) :: zk_I 20 (fr2 1) :: zk_I 20 (fr2 2) :: zk_I 20 (fr2 3) :: zk_I 4 fe2 :: r) ∧ (∀ j, j < n → fd2 j = nI (zc_D g dc j)) ∧ (∀ j, j < n → fe2 j = nI (zc_E g dc dn df j)) ∧ (∀ j, j < n → ∀ k, k < wc → fr2 j k = nI (zc_T g dc dn df j (tw k) + 1)))) 0 0 22 [some (.ref 14), some (.ref 4), some (.ref 2), some (.int (nI n)), some (.int (nI (zv_cnt (fun d => g d ≠ none) dn df 32 0))), some (.int (nI 3)), none] [] (c0 :: zk_Text wc len run :: zk_L 20 tw :: zk_Sh 3 :: zk_D 32 g :: zk_L 200 sn1 :: c6 :: c7 :: c8 :: c9 :: c10 :: c11 :: c12 :: zk_Ch n wc :: zk_I 4 fd1 :: zk_A 4 zk_ga :: zk_I 20 (fr1 0) :: zk_I 20 (fr1 1) :: zk_I 20 (fr1 2) :: zk_I 20 (fr1 3) :: zk_I 4 fe1 :: r) := by
    intro sn1 fd1 fe1 fr1 h1 h2 h3
    refine zr_iload dChances_weigh_22 rfl ?_
    refine zr_aload_n dChances_weigh_24 rfl rfl ?_
    refine zr_getf g_Chances_33 dChances_weigh_25 rfl rfl ?_
    refine zr_icmp_geN (tgt := 111) (by omega) (by omega) dChances_weigh_28 (by decide) (fun h28 => ?_) (fun h28 => ?_)
    ·       exact zr_return dChances_weigh_111 rfl (⟨rfl, sn1, fd1, fr1, fe1, rfl, fun j hj => h1 j (by omega), fun j hj => h2 j (by omega), fun j hj => h3 j (by omega)⟩)
    · refine zr_aload_n dChances_weigh_31 rfl rfl ?_
      refine zr_getf g_Chances_9 dChances_weigh_32 rfl rfl ?_
      refine zr_iload dChances_weigh_35 rfl ?_
      refine zr_aload_n dChances_weigh_37 rfl rfl ?_
      refine zr_iload dChances_weigh_38 rfl ?_
      refine zr_invV (c_Shelf_documentsOf (i := 3) rfl rfl (hok.ok (front := [_, _, _, _, _, _, _, _, _, _, _, _, _, _, _, _, _, _, _, _, _]) rfl) (by decide)) m_Shelf_documentsOf k_Chances_49 v_Shelf_documentsOf rfl rfl dChances_weigh_40 rfl (Nat.le_of_ble_eq_true rfl) (by decide) (Nat.le_of_ble_eq_true rfl) rfl (fun v w2 hp => ?_)
      obtain ⟨rfl, rfl⟩ := hp
      refine ⟨rfl, ?_⟩
      refine zr_iast dChances_weigh_43 rfl (by decide) (by decide) ?_
      refine zr_aload_n dChances_weigh_44 rfl rfl ?_
      refine zr_getf g_Chances_20 dChances_weigh_45 rfl rfl ?_
      refine zr_iload dChances_weigh_48 rfl ?_
      refine zr_aload_n dChances_weigh_50 rfl rfl ?_
      refine zr_iload dChances_weigh_51 rfl ?_
      refine zr_invV (c_Shelf_wordsOf (i := 3) rfl rfl (hok.ok (front := [_, _, _, _, _, _, _, _, _, _, _, _, _, _, _, _, _, _, _, _, _]) rfl) (by decide)) m_Shelf_wordsOf k_Chances_53 v_Shelf_wordsOf rfl rfl dChances_weigh_53 rfl (Nat.le_of_ble_eq_true rfl) (by decide) (Nat.le_of_ble_eq_true rfl) rfl (fun v w2 hp => ?_)
      obtain ⟨rfl, rfl⟩ := hp
      refine ⟨rfl, ?_⟩
      refine zr_iload dChances_weigh_56 rfl ?_
      refine zr_iaddN dChances_weigh_58 ?_
      refine zr_iconst (v := nI 1) dChances_weigh_59 (by decide) ?_
      refine zr_iaddN dChances_weigh_60 ?_
      refine zr_iast dChances_weigh_61 rfl (by decide) (by decide) ?_
      refine zr_iconst (v := nI 0) dChances_weigh_62 (by decide) ?_
      refine zr_istore dChances_weigh_63 (by decide) ?_
      have g1 : ∀ j, j < 4 → (upd fd1 3 (nI (zc_D g dc 3))) j = nI (zc_D g dc j) := fun j hj => by
        by_cases e : j = 3
        · subst e; exact pk_us
        · rw [pk_un e]; exact h1 j (by omega)
      have g2 : ∀ j, j < 4 → (upd fe1 3 (nI (zc_E g dc dn df 3))) j = nI (zc_E g dc dn df j) := fun j hj => by
        by_cases e : j = 3
        · subst e; exact pk_us
        · rw [pk_un e]; exact h2 j (by omega)
      obtain ⟨fd2, hfd2⟩ : ∃ z, z = upd fd1 3 (nI (zc_D g dc 3)) := ⟨_, rfl⟩
      obtain ⟨fe2, hfe2⟩ : ∃ z, z = upd fe1 3 (nI (zc_E g dc dn df 3)) := ⟨_, rfl⟩
      rw [← hfd2] at g1
      rw [← hfe2] at g2
      have key : ∀ k, k ≤ wc → zw_Z G Y_Chances_weigh (zw_R 3 0 0) (fun _ => True) (zw_Q G 0 0 (fun v w2 => v = none ∧ ∃ (sn2 : Nat → Int64) (fd2 : Nat → Int32) (fr2 : Nat → Nat → Int32) (fe2 : Nat → Int32), w2 = (c0 :: zk_Text wc len run :: zk_L 20 tw :: zk_Sh 3 :: zk_D 32 g :: zk_L 200 sn2 :: c6 :: c7 :: c8 :: c9 :: c10 :: c11 :: c12 :: zk_Ch n wc :: zk_I 4 fd2 :: zk_A 4 zk_ga :: zk_I 20 (fr2 0) :: zk_I 20 (fr2 1) :: zk_I 20 (fr2 2) :: zk_I 20 (fr2 3) :: zk_I 4 fe2 :: r) ∧ (∀ j, j < n → fd2 j = nI (zc_D g dc j)) ∧ (∀ j, j < n → fe2 j = nI (zc_E g dc dn df j)) ∧ (∀ j, j < n → ∀ k, k < wc → fr2 j k = nI (zc_T g dc dn df j (tw k) + 1)))) 0 0 65 [some (.ref 14), some (.ref 4), some (.ref 2), some (.int (nI n)), some (.int (nI (zv_cnt (fun d => g d ≠ none) dn df 32 0))), some (.int (nI 3)), some (.int (nI k))] [] (c0 :: zk_Text wc len run :: zk_L 20 tw :: zk_Sh 3 :: zk_D 32 g :: zk_L 200 sn1 :: c6 :: c7 :: c8 :: c9 :: c10 :: c11 :: c12 :: zk_Ch n wc :: zk_I 4 fd2 :: zk_A 4 zk_ga :: zk_I 20 ((va_up fr1 3 (fun j => if j < k then nI (zc_T g dc dn df 3 (tw j) + 1) else fr1 3 j)) 0) :: zk_I 20 ((va_up fr1 3 (fun j => if j < k then nI (zc_T g dc dn df 3 (tw j) + 1) else fr1 3 j)) 1) :: zk_I 20 ((va_up fr1 3 (fun j => if j < k then nI (zc_T g dc dn df 3 (tw j) + 1) else fr1 3 j)) 2) :: zk_I 20 ((va_up fr1 3 (fun j => if j < k then nI (zc_T g dc dn df 3 (tw j) + 1) else fr1 3 j)) 3) :: zk_I 4 fe2 :: r) := by
        refine wz_up wc (fun k hk ih => ?_) ?_
        · refine zr_iload dChances_weigh_65 rfl ?_
          refine zr_aload_n dChances_weigh_67 rfl rfl ?_
          refine zr_getf g_Chances_37 dChances_weigh_68 rfl rfl ?_
          refine zr_icmp_geN (tgt := 105) (by omega) (by omega) dChances_weigh_71 (by decide) (fun h71 => ?_) (fun h71 => ?_)
          · exfalso; omega
          · refine zr_aload_n dChances_weigh_74 rfl rfl ?_
            refine zr_getf g_Chances_17 dChances_weigh_75 rfl rfl ?_
            refine zr_iload dChances_weigh_78 rfl ?_
            refine zr_aaldA dChances_weigh_80 rfl (by decide) (by decide) ?_
            refine zr_iload dChances_weigh_81 rfl ?_
            refine zr_aload_n dChances_weigh_83 rfl rfl ?_
            refine zr_iload dChances_weigh_84 rfl ?_
            refine zr_aload_n dChances_weigh_86 rfl rfl ?_
            refine zr_getf g_Chances_56 dChances_weigh_87 rfl rfl ?_
            refine zr_iload dChances_weigh_90 rfl ?_
            refine zr_lald dChances_weigh_92 rfl (by omega) (by decide) ?_
            refine zr_invV (c_Shelf_timesOf (i := 3) rfl rfl (hok.ok (front := [_, _, _, _, _, _, _, _, _, _, _, _, _, _, _, _, _, _, _, _, _]) rfl) (by decide)) m_Shelf_timesOf k_Chances_60 v_Shelf_timesOf rfl rfl dChances_weigh_93 rfl (Nat.le_of_ble_eq_true rfl) (by decide) (Nat.le_of_ble_eq_true rfl) rfl (fun v w2 hp => ?_)
            obtain ⟨rfl, rfl⟩ := hp
            refine ⟨rfl, ?_⟩
            refine zr_iconst (v := nI 1) dChances_weigh_96 (by decide) ?_
            refine zr_iaddN dChances_weigh_97 ?_
            refine zr_iast dChances_weigh_98 rfl (by omega) (by decide) ?_
            refine zr_wld (w2 := (c0 :: zk_Text wc len run :: zk_L 20 tw :: zk_Sh 3 :: zk_D 32 g :: zk_L 200 sn1 :: c6 :: c7 :: c8 :: c9 :: c10 :: c11 :: c12 :: zk_Ch n wc :: zk_I 4 fd2 :: zk_A 4 zk_ga :: zk_I 20 ((va_up fr1 3 (fun j => if j < (k + 1) then nI (zc_T g dc dn df 3 (tw j) + 1) else fr1 3 j)) 0) :: zk_I 20 ((va_up fr1 3 (fun j => if j < (k + 1) then nI (zc_T g dc dn df 3 (tw j) + 1) else fr1 3 j)) 1) :: zk_I 20 ((va_up fr1 3 (fun j => if j < (k + 1) then nI (zc_T g dc dn df 3 (tw j) + 1) else fr1 3 j)) 2) :: zk_I 20 ((va_up fr1 3 (fun j => if j < (k + 1) then nI (zc_T g dc dn df 3 (tw j) + 1) else fr1 3 j)) 3) :: zk_I 4 fe2 :: r)) (by rw [← zf_upI (d := fun j => nI (zc_T g dc dn df 3 (tw j) + 1))]; rfl) ?_
            refine zr_iinc (v := nI (k + 1)) dChances_weigh_99 rfl (nI_1 _) (by decide) ?_
            refine zr_goto (tgt := 65) dChances_weigh_102 (by decide) ?_
            exact ih
        · refine zr_iload dChances_weigh_65 rfl ?_
          refine zr_aload_n dChances_weigh_67 rfl rfl ?_
          refine zr_getf g_Chances_37 dChances_weigh_68 rfl rfl ?_
          refine zr_icmp_geN (tgt := 105) (by omega) (by omega) dChances_weigh_71 (by decide) (fun h71 => ?_) (fun h71 => ?_)
          · refine zr_iinc (v := nI 4) dChances_weigh_105 rfl (by decide) (by decide) ?_
            refine zr_goto (tgt := 22) dChances_weigh_108 (by decide) ?_
            refine zr_mask [true, true, true, true, true, true, false] (lv4 sn1 fd2 fe2 (va_up fr1 3 (fun j => if j < wc then nI (zc_T g dc dn df 3 (tw j) + 1) else fr1 3 j)) g1 g2 ?_)
            intro j hj k hk
            by_cases e : j = 3
            · subst e; exact if_pos hk
            · exact (congrFun (if_neg e : (va_up fr1 3 (fun j => if j < wc then nI (zc_T g dc dn df 3 (tw j) + 1) else fr1 3 j)) j = fr1 j) k).trans (h3 j (by omega) k hk)
          · exfalso; omega
      refine zr_wld (w2 := (c0 :: zk_Text wc len run :: zk_L 20 tw :: zk_Sh 3 :: zk_D 32 g :: zk_L 200 sn1 :: c6 :: c7 :: c8 :: c9 :: c10 :: c11 :: c12 :: zk_Ch n wc :: zk_I 4 fd2 :: zk_A 4 zk_ga :: zk_I 20 ((va_up fr1 3 (fun j => if j < 0 then nI (zc_T g dc dn df 3 (tw j) + 1) else fr1 3 j)) 0) :: zk_I 20 ((va_up fr1 3 (fun j => if j < 0 then nI (zc_T g dc dn df 3 (tw j) + 1) else fr1 3 j)) 1) :: zk_I 20 ((va_up fr1 3 (fun j => if j < 0 then nI (zc_T g dc dn df 3 (tw j) + 1) else fr1 3 j)) 2) :: zk_I 20 ((va_up fr1 3 (fun j => if j < 0 then nI (zc_T g dc dn df 3 (tw j) + 1) else fr1 3 j)) 3) :: zk_I 4 fe2 :: r)) (by rw [hfd2, hfe2, zf_if0]; rfl) ?_
      exact key 0 (Nat.zero_le wc)
  have lv2 : ∀ (sn1 : Nat → Int64) (fd1 fe1 : Nat → Int32) (fr1 : Nat → Nat → Int32), (∀ j, j < 2 → fd1 j = nI (zc_D g dc j)) → (∀ j, j < 2 → fe1 j = nI (zc_E g dc dn df j)) → (∀ j, j < 2 → ∀ k, k < wc → fr1 j k = nI (zc_T g dc dn df j (tw k) + 1)) → zw_Z G Y_Chances_weigh (zw_R 3 0 0) (fun _ => True) (zw_Q G 0 0 (fun v w2 => v = none ∧ ∃ (sn2 : Nat → Int64) (fd2 : Nat → Int32) (fr2 : Nat → Nat → Int32) (fe2 : Nat → Int32), w2 = (c0 :: zk_Text wc len run :: zk_L 20 tw :: zk_Sh 3 :: zk_D 32 g :: zk_L 200 sn2 :: c6 :: c7 :: c8 :: c9 :: c10 :: c11 :: c12 :: zk_Ch n wc :: zk_I 4 fd2 :: zk_A 4 zk_ga :: zk_I 20 (fr2 0) :: zk_I 20 (fr2 1) :: zk_I 20 (fr2 2) :: zk_I 20 (fr2 3) :: zk_I 4 fe2 :: r) ∧ (∀ j, j < n → fd2 j = nI (zc_D g dc j)) ∧ (∀ j, j < n → fe2 j = nI (zc_E g dc dn df j)) ∧ (∀ j, j < n → ∀ k, k < wc → fr2 j k = nI (zc_T g dc dn df j (tw k) + 1)))) 0 0 22 [some (.ref 14), some (.ref 4), some (.ref 2), some (.int (nI n)), some (.int (nI (zv_cnt (fun d => g d ≠ none) dn df 32 0))), some (.int (nI 2)), none] [] (c0 :: zk_Text wc len run :: zk_L 20 tw :: zk_Sh 3 :: zk_D 32 g :: zk_L 200 sn1 :: c6 :: c7 :: c8 :: c9 :: c10 :: c11 :: c12 :: zk_Ch n wc :: zk_I 4 fd1 :: zk_A 4 zk_ga :: zk_I 20 (fr1 0) :: zk_I 20 (fr1 1) :: zk_I 20 (fr1 2) :: zk_I 20 (fr1 3) :: zk_I 4 fe1 :: r) := by
    intro sn1 fd1 fe1 fr1 h1 h2 h3
    refine zr_iload dChances_weigh_22 rfl ?_
    refine zr_aload_n dChances_weigh_24 rfl rfl ?_
    refine zr_getf g_Chances_33 dChances_weigh_25 rfl rfl ?_
    refine zr_icmp_geN (tgt := 111) (by omega) (by omega) dChances_weigh_28 (by decide) (fun h28 => ?_) (fun h28 => ?_)
    ·       exact zr_return dChances_weigh_111 rfl (⟨rfl, sn1, fd1, fr1, fe1, rfl, fun j hj => h1 j (by omega), fun j hj => h2 j (by omega), fun j hj => h3 j (by omega)⟩)
    · refine zr_aload_n dChances_weigh_31 rfl rfl ?_
      refine zr_getf g_Chances_9 dChances_weigh_32 rfl rfl ?_
      refine zr_iload dChances_weigh_35 rfl ?_
      refine zr_aload_n dChances_weigh_37 rfl rfl ?_
      refine zr_iload dChances_weigh_38 rfl ?_
      refine zr_invV (c_Shelf_documentsOf (i := 3) rfl rfl (hok.ok (front := [_, _, _, _, _, _, _, _, _, _, _, _, _, _, _, _, _, _, _, _, _]) rfl) (by decide)) m_Shelf_documentsOf k_Chances_49 v_Shelf_documentsOf rfl rfl dChances_weigh_40 rfl (Nat.le_of_ble_eq_true rfl) (by decide) (Nat.le_of_ble_eq_true rfl) rfl (fun v w2 hp => ?_)
      obtain ⟨rfl, rfl⟩ := hp
      refine ⟨rfl, ?_⟩
      refine zr_iast dChances_weigh_43 rfl (by decide) (by decide) ?_
      refine zr_aload_n dChances_weigh_44 rfl rfl ?_
      refine zr_getf g_Chances_20 dChances_weigh_45 rfl rfl ?_
      refine zr_iload dChances_weigh_48 rfl ?_
      refine zr_aload_n dChances_weigh_50 rfl rfl ?_
      refine zr_iload dChances_weigh_51 rfl ?_
      refine zr_invV (c_Shelf_wordsOf (i := 3) rfl rfl (hok.ok (front := [_, _, _, _, _, _, _, _, _, _, _, _, _, _, _, _, _, _, _, _, _]) rfl) (by decide)) m_Shelf_wordsOf k_Chances_53 v_Shelf_wordsOf rfl rfl dChances_weigh_53 rfl (Nat.le_of_ble_eq_true rfl) (by decide) (Nat.le_of_ble_eq_true rfl) rfl (fun v w2 hp => ?_)
      obtain ⟨rfl, rfl⟩ := hp
      refine ⟨rfl, ?_⟩
      refine zr_iload dChances_weigh_56 rfl ?_
      refine zr_iaddN dChances_weigh_58 ?_
      refine zr_iconst (v := nI 1) dChances_weigh_59 (by decide) ?_
      refine zr_iaddN dChances_weigh_60 ?_
      refine zr_iast dChances_weigh_61 rfl (by decide) (by decide) ?_
      refine zr_iconst (v := nI 0) dChances_weigh_62 (by decide) ?_
      refine zr_istore dChances_weigh_63 (by decide) ?_
      have g1 : ∀ j, j < 3 → (upd fd1 2 (nI (zc_D g dc 2))) j = nI (zc_D g dc j) := fun j hj => by
        by_cases e : j = 2
        · subst e; exact pk_us
        · rw [pk_un e]; exact h1 j (by omega)
      have g2 : ∀ j, j < 3 → (upd fe1 2 (nI (zc_E g dc dn df 2))) j = nI (zc_E g dc dn df j) := fun j hj => by
        by_cases e : j = 2
        · subst e; exact pk_us
        · rw [pk_un e]; exact h2 j (by omega)
      obtain ⟨fd2, hfd2⟩ : ∃ z, z = upd fd1 2 (nI (zc_D g dc 2)) := ⟨_, rfl⟩
      obtain ⟨fe2, hfe2⟩ : ∃ z, z = upd fe1 2 (nI (zc_E g dc dn df 2)) := ⟨_, rfl⟩
      rw [← hfd2] at g1
      rw [← hfe2] at g2
      have key : ∀ k, k ≤ wc → zw_Z G Y_Chances_weigh (zw_R 3 0 0) (fun _ => True) (zw_Q G 0 0 (fun v w2 => v = none ∧ ∃ (sn2 : Nat → Int64) (fd2 : Nat → Int32) (fr2 : Nat → Nat → Int32) (fe2 : Nat → Int32), w2 = (c0 :: zk_Text wc len run :: zk_L 20 tw :: zk_Sh 3 :: zk_D 32 g :: zk_L 200 sn2 :: c6 :: c7 :: c8 :: c9 :: c10 :: c11 :: c12 :: zk_Ch n wc :: zk_I 4 fd2 :: zk_A 4 zk_ga :: zk_I 20 (fr2 0) :: zk_I 20 (fr2 1) :: zk_I 20 (fr2 2) :: zk_I 20 (fr2 3) :: zk_I 4 fe2 :: r) ∧ (∀ j, j < n → fd2 j = nI (zc_D g dc j)) ∧ (∀ j, j < n → fe2 j = nI (zc_E g dc dn df j)) ∧ (∀ j, j < n → ∀ k, k < wc → fr2 j k = nI (zc_T g dc dn df j (tw k) + 1)))) 0 0 65 [some (.ref 14), some (.ref 4), some (.ref 2), some (.int (nI n)), some (.int (nI (zv_cnt (fun d => g d ≠ none) dn df 32 0))), some (.int (nI 2)), some (.int (nI k))] [] (c0 :: zk_Text wc len run :: zk_L 20 tw :: zk_Sh 3 :: zk_D 32 g :: zk_L 200 sn1 :: c6 :: c7 :: c8 :: c9 :: c10 :: c11 :: c12 :: zk_Ch n wc :: zk_I 4 fd2 :: zk_A 4 zk_ga :: zk_I 20 ((va_up fr1 2 (fun j => if j < k then nI (zc_T g dc dn df 2 (tw j) + 1) else fr1 2 j)) 0) :: zk_I 20 ((va_up fr1 2 (fun j => if j < k then nI (zc_T g dc dn df 2 (tw j) + 1) else fr1 2 j)) 1) :: zk_I 20 ((va_up fr1 2 (fun j => if j < k then nI (zc_T g dc dn df 2 (tw j) + 1) else fr1 2 j)) 2) :: zk_I 20 ((va_up fr1 2 (fun j => if j < k then nI (zc_T g dc dn df 2 (tw j) + 1) else fr1 2 j)) 3) :: zk_I 4 fe2 :: r) := by
        refine wz_up wc (fun k hk ih => ?_) ?_
        · refine zr_iload dChances_weigh_65 rfl ?_
          refine zr_aload_n dChances_weigh_67 rfl rfl ?_
          refine zr_getf g_Chances_37 dChances_weigh_68 rfl rfl ?_
          refine zr_icmp_geN (tgt := 105) (by omega) (by omega) dChances_weigh_71 (by decide) (fun h71 => ?_) (fun h71 => ?_)
          · exfalso; omega
          · refine zr_aload_n dChances_weigh_74 rfl rfl ?_
            refine zr_getf g_Chances_17 dChances_weigh_75 rfl rfl ?_
            refine zr_iload dChances_weigh_78 rfl ?_
            refine zr_aaldA dChances_weigh_80 rfl (by decide) (by decide) ?_
            refine zr_iload dChances_weigh_81 rfl ?_
            refine zr_aload_n dChances_weigh_83 rfl rfl ?_
            refine zr_iload dChances_weigh_84 rfl ?_
            refine zr_aload_n dChances_weigh_86 rfl rfl ?_
            refine zr_getf g_Chances_56 dChances_weigh_87 rfl rfl ?_
            refine zr_iload dChances_weigh_90 rfl ?_
            refine zr_lald dChances_weigh_92 rfl (by omega) (by decide) ?_
            refine zr_invV (c_Shelf_timesOf (i := 3) rfl rfl (hok.ok (front := [_, _, _, _, _, _, _, _, _, _, _, _, _, _, _, _, _, _, _, _, _]) rfl) (by decide)) m_Shelf_timesOf k_Chances_60 v_Shelf_timesOf rfl rfl dChances_weigh_93 rfl (Nat.le_of_ble_eq_true rfl) (by decide) (Nat.le_of_ble_eq_true rfl) rfl (fun v w2 hp => ?_)
            obtain ⟨rfl, rfl⟩ := hp
            refine ⟨rfl, ?_⟩
            refine zr_iconst (v := nI 1) dChances_weigh_96 (by decide) ?_
            refine zr_iaddN dChances_weigh_97 ?_
            refine zr_iast dChances_weigh_98 rfl (by omega) (by decide) ?_
            refine zr_wld (w2 := (c0 :: zk_Text wc len run :: zk_L 20 tw :: zk_Sh 3 :: zk_D 32 g :: zk_L 200 sn1 :: c6 :: c7 :: c8 :: c9 :: c10 :: c11 :: c12 :: zk_Ch n wc :: zk_I 4 fd2 :: zk_A 4 zk_ga :: zk_I 20 ((va_up fr1 2 (fun j => if j < (k + 1) then nI (zc_T g dc dn df 2 (tw j) + 1) else fr1 2 j)) 0) :: zk_I 20 ((va_up fr1 2 (fun j => if j < (k + 1) then nI (zc_T g dc dn df 2 (tw j) + 1) else fr1 2 j)) 1) :: zk_I 20 ((va_up fr1 2 (fun j => if j < (k + 1) then nI (zc_T g dc dn df 2 (tw j) + 1) else fr1 2 j)) 2) :: zk_I 20 ((va_up fr1 2 (fun j => if j < (k + 1) then nI (zc_T g dc dn df 2 (tw j) + 1) else fr1 2 j)) 3) :: zk_I 4 fe2 :: r)) (by rw [← zf_upI (d := fun j => nI (zc_T g dc dn df 2 (tw j) + 1))]; rfl) ?_
            refine zr_iinc (v := nI (k + 1)) dChances_weigh_99 rfl (nI_1 _) (by decide) ?_
            refine zr_goto (tgt := 65) dChances_weigh_102 (by decide) ?_
            exact ih
        · refine zr_iload dChances_weigh_65 rfl ?_
          refine zr_aload_n dChances_weigh_67 rfl rfl ?_
          refine zr_getf g_Chances_37 dChances_weigh_68 rfl rfl ?_
          refine zr_icmp_geN (tgt := 105) (by omega) (by omega) dChances_weigh_71 (by decide) (fun h71 => ?_) (fun h71 => ?_)
          · refine zr_iinc (v := nI 3) dChances_weigh_105 rfl (by decide) (by decide) ?_
            refine zr_goto (tgt := 22) dChances_weigh_108 (by decide) ?_
            refine zr_mask [true, true, true, true, true, true, false] (lv3 sn1 fd2 fe2 (va_up fr1 2 (fun j => if j < wc then nI (zc_T g dc dn df 2 (tw j) + 1) else fr1 2 j)) g1 g2 ?_)
            intro j hj k hk
            by_cases e : j = 2
            · subst e; exact if_pos hk
            · exact (congrFun (if_neg e : (va_up fr1 2 (fun j => if j < wc then nI (zc_T g dc dn df 2 (tw j) + 1) else fr1 2 j)) j = fr1 j) k).trans (h3 j (by omega) k hk)
          · exfalso; omega
      refine zr_wld (w2 := (c0 :: zk_Text wc len run :: zk_L 20 tw :: zk_Sh 3 :: zk_D 32 g :: zk_L 200 sn1 :: c6 :: c7 :: c8 :: c9 :: c10 :: c11 :: c12 :: zk_Ch n wc :: zk_I 4 fd2 :: zk_A 4 zk_ga :: zk_I 20 ((va_up fr1 2 (fun j => if j < 0 then nI (zc_T g dc dn df 2 (tw j) + 1) else fr1 2 j)) 0) :: zk_I 20 ((va_up fr1 2 (fun j => if j < 0 then nI (zc_T g dc dn df 2 (tw j) + 1) else fr1 2 j)) 1) :: zk_I 20 ((va_up fr1 2 (fun j => if j < 0 then nI (zc_T g dc dn df 2 (tw j) + 1) else fr1 2 j)) 2) :: zk_I 20 ((va_up fr1 2 (fun j => if j < 0 then nI (zc_T g dc dn df 2 (tw j) + 1) else fr1 2 j)) 3) :: zk_I 4 fe2 :: r)) (by rw [hfd2, hfe2, zf_if0]; rfl) ?_
      exact key 0 (Nat.zero_le wc)
  have lv1 : ∀ (sn1 : Nat → Int64) (fd1 fe1 : Nat → Int32) (fr1 : Nat → Nat → Int32), (∀ j, j < 1 → fd1 j = nI (zc_D g dc j)) → (∀ j, j < 1 → fe1 j = nI (zc_E g dc dn df j)) → (∀ j, j < 1 → ∀ k, k < wc → fr1 j k = nI (zc_T g dc dn df j (tw k) + 1)) → zw_Z G Y_Chances_weigh (zw_R 3 0 0) (fun _ => True) (zw_Q G 0 0 (fun v w2 => v = none ∧ ∃ (sn2 : Nat → Int64) (fd2 : Nat → Int32) (fr2 : Nat → Nat → Int32) (fe2 : Nat → Int32), w2 = (c0 :: zk_Text wc len run :: zk_L 20 tw :: zk_Sh 3 :: zk_D 32 g :: zk_L 200 sn2 :: c6 :: c7 :: c8 :: c9 :: c10 :: c11 :: c12 :: zk_Ch n wc :: zk_I 4 fd2 :: zk_A 4 zk_ga :: zk_I 20 (fr2 0) :: zk_I 20 (fr2 1) :: zk_I 20 (fr2 2) :: zk_I 20 (fr2 3) :: zk_I 4 fe2 :: r) ∧ (∀ j, j < n → fd2 j = nI (zc_D g dc j)) ∧ (∀ j, j < n → fe2 j = nI (zc_E g dc dn df j)) ∧ (∀ j, j < n → ∀ k, k < wc → fr2 j k = nI (zc_T g dc dn df j (tw k) + 1)))) 0 0 22 [some (.ref 14), some (.ref 4), some (.ref 2), some (.int (nI n)), some (.int (nI (zv_cnt (fun d => g d ≠ none) dn df 32 0))), some (.int (nI 1)), none] [] (c0 :: zk_Text wc len run :: zk_L 20 tw :: zk_Sh 3 :: zk_D 32 g :: zk_L 200 sn1 :: c6 :: c7 :: c8 :: c9 :: c10 :: c11 :: c12 :: zk_Ch n wc :: zk_I 4 fd1 :: zk_A 4 zk_ga :: zk_I 20 (fr1 0) :: zk_I 20 (fr1 1) :: zk_I 20 (fr1 2) :: zk_I 20 (fr1 3) :: zk_I 4 fe1 :: r) := by
    intro sn1 fd1 fe1 fr1 h1 h2 h3
    refine zr_iload dChances_weigh_22 rfl ?_
    refine zr_aload_n dChances_weigh_24 rfl rfl ?_
    refine zr_getf g_Chances_33 dChances_weigh_25 rfl rfl ?_
    refine zr_icmp_geN (tgt := 111) (by omega) (by omega) dChances_weigh_28 (by decide) (fun h28 => ?_) (fun h28 => ?_)
    ·       exact zr_return dChances_weigh_111 rfl (⟨rfl, sn1, fd1, fr1, fe1, rfl, fun j hj => h1 j (by omega), fun j hj => h2 j (by omega), fun j hj => h3 j (by omega)⟩)
    · refine zr_aload_n dChances_weigh_31 rfl rfl ?_
      refine zr_getf g_Chances_9 dChances_weigh_32 rfl rfl ?_
      refine zr_iload dChances_weigh_35 rfl ?_
      refine zr_aload_n dChances_weigh_37 rfl rfl ?_
      refine zr_iload dChances_weigh_38 rfl ?_
      refine zr_invV (c_Shelf_documentsOf (i := 3) rfl rfl (hok.ok (front := [_, _, _, _, _, _, _, _, _, _, _, _, _, _, _, _, _, _, _, _, _]) rfl) (by decide)) m_Shelf_documentsOf k_Chances_49 v_Shelf_documentsOf rfl rfl dChances_weigh_40 rfl (Nat.le_of_ble_eq_true rfl) (by decide) (Nat.le_of_ble_eq_true rfl) rfl (fun v w2 hp => ?_)
      obtain ⟨rfl, rfl⟩ := hp
      refine ⟨rfl, ?_⟩
      refine zr_iast dChances_weigh_43 rfl (by decide) (by decide) ?_
      refine zr_aload_n dChances_weigh_44 rfl rfl ?_
      refine zr_getf g_Chances_20 dChances_weigh_45 rfl rfl ?_
      refine zr_iload dChances_weigh_48 rfl ?_
      refine zr_aload_n dChances_weigh_50 rfl rfl ?_
      refine zr_iload dChances_weigh_51 rfl ?_
      refine zr_invV (c_Shelf_wordsOf (i := 3) rfl rfl (hok.ok (front := [_, _, _, _, _, _, _, _, _, _, _, _, _, _, _, _, _, _, _, _, _]) rfl) (by decide)) m_Shelf_wordsOf k_Chances_53 v_Shelf_wordsOf rfl rfl dChances_weigh_53 rfl (Nat.le_of_ble_eq_true rfl) (by decide) (Nat.le_of_ble_eq_true rfl) rfl (fun v w2 hp => ?_)
      obtain ⟨rfl, rfl⟩ := hp
      refine ⟨rfl, ?_⟩
      refine zr_iload dChances_weigh_56 rfl ?_
      refine zr_iaddN dChances_weigh_58 ?_
      refine zr_iconst (v := nI 1) dChances_weigh_59 (by decide) ?_
      refine zr_iaddN dChances_weigh_60 ?_
      refine zr_iast dChances_weigh_61 rfl (by decide) (by decide) ?_
      refine zr_iconst (v := nI 0) dChances_weigh_62 (by decide) ?_
      refine zr_istore dChances_weigh_63 (by decide) ?_
      have g1 : ∀ j, j < 2 → (upd fd1 1 (nI (zc_D g dc 1))) j = nI (zc_D g dc j) := fun j hj => by
        by_cases e : j = 1
        · subst e; exact pk_us
        · rw [pk_un e]; exact h1 j (by omega)
      have g2 : ∀ j, j < 2 → (upd fe1 1 (nI (zc_E g dc dn df 1))) j = nI (zc_E g dc dn df j) := fun j hj => by
        by_cases e : j = 1
        · subst e; exact pk_us
        · rw [pk_un e]; exact h2 j (by omega)
      obtain ⟨fd2, hfd2⟩ : ∃ z, z = upd fd1 1 (nI (zc_D g dc 1)) := ⟨_, rfl⟩
      obtain ⟨fe2, hfe2⟩ : ∃ z, z = upd fe1 1 (nI (zc_E g dc dn df 1)) := ⟨_, rfl⟩
      rw [← hfd2] at g1
      rw [← hfe2] at g2
      have key : ∀ k, k ≤ wc → zw_Z G Y_Chances_weigh (zw_R 3 0 0) (fun _ => True) (zw_Q G 0 0 (fun v w2 => v = none ∧ ∃ (sn2 : Nat → Int64) (fd2 : Nat → Int32) (fr2 : Nat → Nat → Int32) (fe2 : Nat → Int32), w2 = (c0 :: zk_Text wc len run :: zk_L 20 tw :: zk_Sh 3 :: zk_D 32 g :: zk_L 200 sn2 :: c6 :: c7 :: c8 :: c9 :: c10 :: c11 :: c12 :: zk_Ch n wc :: zk_I 4 fd2 :: zk_A 4 zk_ga :: zk_I 20 (fr2 0) :: zk_I 20 (fr2 1) :: zk_I 20 (fr2 2) :: zk_I 20 (fr2 3) :: zk_I 4 fe2 :: r) ∧ (∀ j, j < n → fd2 j = nI (zc_D g dc j)) ∧ (∀ j, j < n → fe2 j = nI (zc_E g dc dn df j)) ∧ (∀ j, j < n → ∀ k, k < wc → fr2 j k = nI (zc_T g dc dn df j (tw k) + 1)))) 0 0 65 [some (.ref 14), some (.ref 4), some (.ref 2), some (.int (nI n)), some (.int (nI (zv_cnt (fun d => g d ≠ none) dn df 32 0))), some (.int (nI 1)), some (.int (nI k))] [] (c0 :: zk_Text wc len run :: zk_L 20 tw :: zk_Sh 3 :: zk_D 32 g :: zk_L 200 sn1 :: c6 :: c7 :: c8 :: c9 :: c10 :: c11 :: c12 :: zk_Ch n wc :: zk_I 4 fd2 :: zk_A 4 zk_ga :: zk_I 20 ((va_up fr1 1 (fun j => if j < k then nI (zc_T g dc dn df 1 (tw j) + 1) else fr1 1 j)) 0) :: zk_I 20 ((va_up fr1 1 (fun j => if j < k then nI (zc_T g dc dn df 1 (tw j) + 1) else fr1 1 j)) 1) :: zk_I 20 ((va_up fr1 1 (fun j => if j < k then nI (zc_T g dc dn df 1 (tw j) + 1) else fr1 1 j)) 2) :: zk_I 20 ((va_up fr1 1 (fun j => if j < k then nI (zc_T g dc dn df 1 (tw j) + 1) else fr1 1 j)) 3) :: zk_I 4 fe2 :: r) := by
        refine wz_up wc (fun k hk ih => ?_) ?_
        · refine zr_iload dChances_weigh_65 rfl ?_
          refine zr_aload_n dChances_weigh_67 rfl rfl ?_
          refine zr_getf g_Chances_37 dChances_weigh_68 rfl rfl ?_
          refine zr_icmp_geN (tgt := 105) (by omega) (by omega) dChances_weigh_71 (by decide) (fun h71 => ?_) (fun h71 => ?_)
          · exfalso; omega
          · refine zr_aload_n dChances_weigh_74 rfl rfl ?_
            refine zr_getf g_Chances_17 dChances_weigh_75 rfl rfl ?_
            refine zr_iload dChances_weigh_78 rfl ?_
            refine zr_aaldA dChances_weigh_80 rfl (by decide) (by decide) ?_
            refine zr_iload dChances_weigh_81 rfl ?_
            refine zr_aload_n dChances_weigh_83 rfl rfl ?_
            refine zr_iload dChances_weigh_84 rfl ?_
            refine zr_aload_n dChances_weigh_86 rfl rfl ?_
            refine zr_getf g_Chances_56 dChances_weigh_87 rfl rfl ?_
            refine zr_iload dChances_weigh_90 rfl ?_
            refine zr_lald dChances_weigh_92 rfl (by omega) (by decide) ?_
            refine zr_invV (c_Shelf_timesOf (i := 3) rfl rfl (hok.ok (front := [_, _, _, _, _, _, _, _, _, _, _, _, _, _, _, _, _, _, _, _, _]) rfl) (by decide)) m_Shelf_timesOf k_Chances_60 v_Shelf_timesOf rfl rfl dChances_weigh_93 rfl (Nat.le_of_ble_eq_true rfl) (by decide) (Nat.le_of_ble_eq_true rfl) rfl (fun v w2 hp => ?_)
            obtain ⟨rfl, rfl⟩ := hp
            refine ⟨rfl, ?_⟩
            refine zr_iconst (v := nI 1) dChances_weigh_96 (by decide) ?_
            refine zr_iaddN dChances_weigh_97 ?_
            refine zr_iast dChances_weigh_98 rfl (by omega) (by decide) ?_
            refine zr_wld (w2 := (c0 :: zk_Text wc len run :: zk_L 20 tw :: zk_Sh 3 :: zk_D 32 g :: zk_L 200 sn1 :: c6 :: c7 :: c8 :: c9 :: c10 :: c11 :: c12 :: zk_Ch n wc :: zk_I 4 fd2 :: zk_A 4 zk_ga :: zk_I 20 ((va_up fr1 1 (fun j => if j < (k + 1) then nI (zc_T g dc dn df 1 (tw j) + 1) else fr1 1 j)) 0) :: zk_I 20 ((va_up fr1 1 (fun j => if j < (k + 1) then nI (zc_T g dc dn df 1 (tw j) + 1) else fr1 1 j)) 1) :: zk_I 20 ((va_up fr1 1 (fun j => if j < (k + 1) then nI (zc_T g dc dn df 1 (tw j) + 1) else fr1 1 j)) 2) :: zk_I 20 ((va_up fr1 1 (fun j => if j < (k + 1) then nI (zc_T g dc dn df 1 (tw j) + 1) else fr1 1 j)) 3) :: zk_I 4 fe2 :: r)) (by rw [← zf_upI (d := fun j => nI (zc_T g dc dn df 1 (tw j) + 1))]; rfl) ?_
            refine zr_iinc (v := nI (k + 1)) dChances_weigh_99 rfl (nI_1 _) (by decide) ?_
            refine zr_goto (tgt := 65) dChances_weigh_102 (by decide) ?_
            exact ih
        · refine zr_iload dChances_weigh_65 rfl ?_
          refine zr_aload_n dChances_weigh_67 rfl rfl ?_
          refine zr_getf g_Chances_37 dChances_weigh_68 rfl rfl ?_
          refine zr_icmp_geN (tgt := 105) (by omega) (by omega) dChances_weigh_71 (by decide) (fun h71 => ?_) (fun h71 => ?_)
          · refine zr_iinc (v := nI 2) dChances_weigh_105 rfl (by decide) (by decide) ?_
            refine zr_goto (tgt := 22) dChances_weigh_108 (by decide) ?_
            refine zr_mask [true, true, true, true, true, true, false] (lv2 sn1 fd2 fe2 (va_up fr1 1 (fun j => if j < wc then nI (zc_T g dc dn df 1 (tw j) + 1) else fr1 1 j)) g1 g2 ?_)
            intro j hj k hk
            by_cases e : j = 1
            · subst e; exact if_pos hk
            · exact (congrFun (if_neg e : (va_up fr1 1 (fun j => if j < wc then nI (zc_T g dc dn df 1 (tw j) + 1) else fr1 1 j)) j = fr1 j) k).trans (h3 j (by omega) k hk)
          · exfalso; omega
      refine zr_wld (w2 := (c0 :: zk_Text wc len run :: zk_L 20 tw :: zk_Sh 3 :: zk_D 32 g :: zk_L 200 sn1 :: c6 :: c7 :: c8 :: c9 :: c10 :: c11 :: c12 :: zk_Ch n wc :: zk_I 4 fd2 :: zk_A 4 zk_ga :: zk_I 20 ((va_up fr1 1 (fun j => if j < 0 then nI (zc_T g dc dn df 1 (tw j) + 1) else fr1 1 j)) 0) :: zk_I 20 ((va_up fr1 1 (fun j => if j < 0 then nI (zc_T g dc dn df 1 (tw j) + 1) else fr1 1 j)) 1) :: zk_I 20 ((va_up fr1 1 (fun j => if j < 0 then nI (zc_T g dc dn df 1 (tw j) + 1) else fr1 1 j)) 2) :: zk_I 20 ((va_up fr1 1 (fun j => if j < 0 then nI (zc_T g dc dn df 1 (tw j) + 1) else fr1 1 j)) 3) :: zk_I 4 fe2 :: r)) (by rw [hfd2, hfe2, zf_if0]; rfl) ?_
      exact key 0 (Nat.zero_le wc)
  have lv0 : ∀ (sn1 : Nat → Int64) (fd1 fe1 : Nat → Int32) (fr1 : Nat → Nat → Int32), (∀ j, j < 0 → fd1 j = nI (zc_D g dc j)) → (∀ j, j < 0 → fe1 j = nI (zc_E g dc dn df j)) → (∀ j, j < 0 → ∀ k, k < wc → fr1 j k = nI (zc_T g dc dn df j (tw k) + 1)) → zw_Z G Y_Chances_weigh (zw_R 3 0 0) (fun _ => True) (zw_Q G 0 0 (fun v w2 => v = none ∧ ∃ (sn2 : Nat → Int64) (fd2 : Nat → Int32) (fr2 : Nat → Nat → Int32) (fe2 : Nat → Int32), w2 = (c0 :: zk_Text wc len run :: zk_L 20 tw :: zk_Sh 3 :: zk_D 32 g :: zk_L 200 sn2 :: c6 :: c7 :: c8 :: c9 :: c10 :: c11 :: c12 :: zk_Ch n wc :: zk_I 4 fd2 :: zk_A 4 zk_ga :: zk_I 20 (fr2 0) :: zk_I 20 (fr2 1) :: zk_I 20 (fr2 2) :: zk_I 20 (fr2 3) :: zk_I 4 fe2 :: r) ∧ (∀ j, j < n → fd2 j = nI (zc_D g dc j)) ∧ (∀ j, j < n → fe2 j = nI (zc_E g dc dn df j)) ∧ (∀ j, j < n → ∀ k, k < wc → fr2 j k = nI (zc_T g dc dn df j (tw k) + 1)))) 0 0 22 [some (.ref 14), some (.ref 4), some (.ref 2), some (.int (nI n)), some (.int (nI (zv_cnt (fun d => g d ≠ none) dn df 32 0))), some (.int (nI 0)), none] [] (c0 :: zk_Text wc len run :: zk_L 20 tw :: zk_Sh 3 :: zk_D 32 g :: zk_L 200 sn1 :: c6 :: c7 :: c8 :: c9 :: c10 :: c11 :: c12 :: zk_Ch n wc :: zk_I 4 fd1 :: zk_A 4 zk_ga :: zk_I 20 (fr1 0) :: zk_I 20 (fr1 1) :: zk_I 20 (fr1 2) :: zk_I 20 (fr1 3) :: zk_I 4 fe1 :: r) := by
    intro sn1 fd1 fe1 fr1 h1 h2 h3
    refine zr_iload dChances_weigh_22 rfl ?_
    refine zr_aload_n dChances_weigh_24 rfl rfl ?_
    refine zr_getf g_Chances_33 dChances_weigh_25 rfl rfl ?_
    refine zr_icmp_geN (tgt := 111) (by omega) (by omega) dChances_weigh_28 (by decide) (fun h28 => ?_) (fun h28 => ?_)
    ·       exact zr_return dChances_weigh_111 rfl (⟨rfl, sn1, fd1, fr1, fe1, rfl, fun j hj => h1 j (by omega), fun j hj => h2 j (by omega), fun j hj => h3 j (by omega)⟩)
    · refine zr_aload_n dChances_weigh_31 rfl rfl ?_
      refine zr_getf g_Chances_9 dChances_weigh_32 rfl rfl ?_
      refine zr_iload dChances_weigh_35 rfl ?_
      refine zr_aload_n dChances_weigh_37 rfl rfl ?_
      refine zr_iload dChances_weigh_38 rfl ?_
      refine zr_invV (c_Shelf_documentsOf (i := 3) rfl rfl (hok.ok (front := [_, _, _, _, _, _, _, _, _, _, _, _, _, _, _, _, _, _, _, _, _]) rfl) (by decide)) m_Shelf_documentsOf k_Chances_49 v_Shelf_documentsOf rfl rfl dChances_weigh_40 rfl (Nat.le_of_ble_eq_true rfl) (by decide) (Nat.le_of_ble_eq_true rfl) rfl (fun v w2 hp => ?_)
      obtain ⟨rfl, rfl⟩ := hp
      refine ⟨rfl, ?_⟩
      refine zr_iast dChances_weigh_43 rfl (by decide) (by decide) ?_
      refine zr_aload_n dChances_weigh_44 rfl rfl ?_
      refine zr_getf g_Chances_20 dChances_weigh_45 rfl rfl ?_
      refine zr_iload dChances_weigh_48 rfl ?_
      refine zr_aload_n dChances_weigh_50 rfl rfl ?_
      refine zr_iload dChances_weigh_51 rfl ?_
      refine zr_invV (c_Shelf_wordsOf (i := 3) rfl rfl (hok.ok (front := [_, _, _, _, _, _, _, _, _, _, _, _, _, _, _, _, _, _, _, _, _]) rfl) (by decide)) m_Shelf_wordsOf k_Chances_53 v_Shelf_wordsOf rfl rfl dChances_weigh_53 rfl (Nat.le_of_ble_eq_true rfl) (by decide) (Nat.le_of_ble_eq_true rfl) rfl (fun v w2 hp => ?_)
      obtain ⟨rfl, rfl⟩ := hp
      refine ⟨rfl, ?_⟩
      refine zr_iload dChances_weigh_56 rfl ?_
      refine zr_iaddN dChances_weigh_58 ?_
      refine zr_iconst (v := nI 1) dChances_weigh_59 (by decide) ?_
      refine zr_iaddN dChances_weigh_60 ?_
      refine zr_iast dChances_weigh_61 rfl (by decide) (by decide) ?_
      refine zr_iconst (v := nI 0) dChances_weigh_62 (by decide) ?_
      refine zr_istore dChances_weigh_63 (by decide) ?_
      have g1 : ∀ j, j < 1 → (upd fd1 0 (nI (zc_D g dc 0))) j = nI (zc_D g dc j) := fun j hj => by
        by_cases e : j = 0
        · subst e; exact pk_us
        · rw [pk_un e]; exact h1 j (by omega)
      have g2 : ∀ j, j < 1 → (upd fe1 0 (nI (zc_E g dc dn df 0))) j = nI (zc_E g dc dn df j) := fun j hj => by
        by_cases e : j = 0
        · subst e; exact pk_us
        · rw [pk_un e]; exact h2 j (by omega)
      obtain ⟨fd2, hfd2⟩ : ∃ z, z = upd fd1 0 (nI (zc_D g dc 0)) := ⟨_, rfl⟩
      obtain ⟨fe2, hfe2⟩ : ∃ z, z = upd fe1 0 (nI (zc_E g dc dn df 0)) := ⟨_, rfl⟩
      rw [← hfd2] at g1
      rw [← hfe2] at g2
      have key : ∀ k, k ≤ wc → zw_Z G Y_Chances_weigh (zw_R 3 0 0) (fun _ => True) (zw_Q G 0 0 (fun v w2 => v = none ∧ ∃ (sn2 : Nat → Int64) (fd2 : Nat → Int32) (fr2 : Nat → Nat → Int32) (fe2 : Nat → Int32), w2 = (c0 :: zk_Text wc len run :: zk_L 20 tw :: zk_Sh 3 :: zk_D 32 g :: zk_L 200 sn2 :: c6 :: c7 :: c8 :: c9 :: c10 :: c11 :: c12 :: zk_Ch n wc :: zk_I 4 fd2 :: zk_A 4 zk_ga :: zk_I 20 (fr2 0) :: zk_I 20 (fr2 1) :: zk_I 20 (fr2 2) :: zk_I 20 (fr2 3) :: zk_I 4 fe2 :: r) ∧ (∀ j, j < n → fd2 j = nI (zc_D g dc j)) ∧ (∀ j, j < n → fe2 j = nI (zc_E g dc dn df j)) ∧ (∀ j, j < n → ∀ k, k < wc → fr2 j k = nI (zc_T g dc dn df j (tw k) + 1)))) 0 0 65 [some (.ref 14), some (.ref 4), some (.ref 2), some (.int (nI n)), some (.int (nI (zv_cnt (fun d => g d ≠ none) dn df 32 0))), some (.int (nI 0)), some (.int (nI k))] [] (c0 :: zk_Text wc len run :: zk_L 20 tw :: zk_Sh 3 :: zk_D 32 g :: zk_L 200 sn1 :: c6 :: c7 :: c8 :: c9 :: c10 :: c11 :: c12 :: zk_Ch n wc :: zk_I 4 fd2 :: zk_A 4 zk_ga :: zk_I 20 ((va_up fr1 0 (fun j => if j < k then nI (zc_T g dc dn df 0 (tw j) + 1) else fr1 0 j)) 0) :: zk_I 20 ((va_up fr1 0 (fun j => if j < k then nI (zc_T g dc dn df 0 (tw j) + 1) else fr1 0 j)) 1) :: zk_I 20 ((va_up fr1 0 (fun j => if j < k then nI (zc_T g dc dn df 0 (tw j) + 1) else fr1 0 j)) 2) :: zk_I 20 ((va_up fr1 0 (fun j => if j < k then nI (zc_T g dc dn df 0 (tw j) + 1) else fr1 0 j)) 3) :: zk_I 4 fe2 :: r) := by
        refine wz_up wc (fun k hk ih => ?_) ?_
        · refine zr_iload dChances_weigh_65 rfl ?_
          refine zr_aload_n dChances_weigh_67 rfl rfl ?_
          refine zr_getf g_Chances_37 dChances_weigh_68 rfl rfl ?_
          refine zr_icmp_geN (tgt := 105) (by omega) (by omega) dChances_weigh_71 (by decide) (fun h71 => ?_) (fun h71 => ?_)
          · exfalso; omega
          · refine zr_aload_n dChances_weigh_74 rfl rfl ?_
            refine zr_getf g_Chances_17 dChances_weigh_75 rfl rfl ?_
            refine zr_iload dChances_weigh_78 rfl ?_
            refine zr_aaldA dChances_weigh_80 rfl (by decide) (by decide) ?_
            refine zr_iload dChances_weigh_81 rfl ?_
            refine zr_aload_n dChances_weigh_83 rfl rfl ?_
            refine zr_iload dChances_weigh_84 rfl ?_
            refine zr_aload_n dChances_weigh_86 rfl rfl ?_
            refine zr_getf g_Chances_56 dChances_weigh_87 rfl rfl ?_
            refine zr_iload dChances_weigh_90 rfl ?_
            refine zr_lald dChances_weigh_92 rfl (by omega) (by decide) ?_
            refine zr_invV (c_Shelf_timesOf (i := 3) rfl rfl (hok.ok (front := [_, _, _, _, _, _, _, _, _, _, _, _, _, _, _, _, _, _, _, _, _]) rfl) (by decide)) m_Shelf_timesOf k_Chances_60 v_Shelf_timesOf rfl rfl dChances_weigh_93 rfl (Nat.le_of_ble_eq_true rfl) (by decide) (Nat.le_of_ble_eq_true rfl) rfl (fun v w2 hp => ?_)
            obtain ⟨rfl, rfl⟩ := hp
            refine ⟨rfl, ?_⟩
            refine zr_iconst (v := nI 1) dChances_weigh_96 (by decide) ?_
            refine zr_iaddN dChances_weigh_97 ?_
            refine zr_iast dChances_weigh_98 rfl (by omega) (by decide) ?_
            refine zr_wld (w2 := (c0 :: zk_Text wc len run :: zk_L 20 tw :: zk_Sh 3 :: zk_D 32 g :: zk_L 200 sn1 :: c6 :: c7 :: c8 :: c9 :: c10 :: c11 :: c12 :: zk_Ch n wc :: zk_I 4 fd2 :: zk_A 4 zk_ga :: zk_I 20 ((va_up fr1 0 (fun j => if j < (k + 1) then nI (zc_T g dc dn df 0 (tw j) + 1) else fr1 0 j)) 0) :: zk_I 20 ((va_up fr1 0 (fun j => if j < (k + 1) then nI (zc_T g dc dn df 0 (tw j) + 1) else fr1 0 j)) 1) :: zk_I 20 ((va_up fr1 0 (fun j => if j < (k + 1) then nI (zc_T g dc dn df 0 (tw j) + 1) else fr1 0 j)) 2) :: zk_I 20 ((va_up fr1 0 (fun j => if j < (k + 1) then nI (zc_T g dc dn df 0 (tw j) + 1) else fr1 0 j)) 3) :: zk_I 4 fe2 :: r)) (by rw [← zf_upI (d := fun j => nI (zc_T g dc dn df 0 (tw j) + 1))]; rfl) ?_
            refine zr_iinc (v := nI (k + 1)) dChances_weigh_99 rfl (nI_1 _) (by decide) ?_
            refine zr_goto (tgt := 65) dChances_weigh_102 (by decide) ?_
            exact ih
        · refine zr_iload dChances_weigh_65 rfl ?_
          refine zr_aload_n dChances_weigh_67 rfl rfl ?_
          refine zr_getf g_Chances_37 dChances_weigh_68 rfl rfl ?_
          refine zr_icmp_geN (tgt := 105) (by omega) (by omega) dChances_weigh_71 (by decide) (fun h71 => ?_) (fun h71 => ?_)
          · refine zr_iinc (v := nI 1) dChances_weigh_105 rfl (by decide) (by decide) ?_
            refine zr_goto (tgt := 22) dChances_weigh_108 (by decide) ?_
            refine zr_mask [true, true, true, true, true, true, false] (lv1 sn1 fd2 fe2 (va_up fr1 0 (fun j => if j < wc then nI (zc_T g dc dn df 0 (tw j) + 1) else fr1 0 j)) g1 g2 ?_)
            intro j hj k hk
            by_cases e : j = 0
            · subst e; exact if_pos hk
            · exact (congrFun (if_neg e : (va_up fr1 0 (fun j => if j < wc then nI (zc_T g dc dn df 0 (tw j) + 1) else fr1 0 j)) j = fr1 j) k).trans (h3 j (by omega) k hk)
          · exfalso; omega
      refine zr_wld (w2 := (c0 :: zk_Text wc len run :: zk_L 20 tw :: zk_Sh 3 :: zk_D 32 g :: zk_L 200 sn1 :: c6 :: c7 :: c8 :: c9 :: c10 :: c11 :: c12 :: zk_Ch n wc :: zk_I 4 fd2 :: zk_A 4 zk_ga :: zk_I 20 ((va_up fr1 0 (fun j => if j < 0 then nI (zc_T g dc dn df 0 (tw j) + 1) else fr1 0 j)) 0) :: zk_I 20 ((va_up fr1 0 (fun j => if j < 0 then nI (zc_T g dc dn df 0 (tw j) + 1) else fr1 0 j)) 1) :: zk_I 20 ((va_up fr1 0 (fun j => if j < 0 then nI (zc_T g dc dn df 0 (tw j) + 1) else fr1 0 j)) 2) :: zk_I 20 ((va_up fr1 0 (fun j => if j < 0 then nI (zc_T g dc dn df 0 (tw j) + 1) else fr1 0 j)) 3) :: zk_I 4 fe2 :: r)) (by rw [hfd2, hfe2, zf_if0]; rfl) ?_
      exact key 0 (Nat.zero_le wc)
  show zw_Z G Y_Chances_weigh _ _ _ 0 0 0 [some (.ref 14), some (.ref 4), some (.ref 2), some (.int (nI n)), none, none, none] [] _
  refine zr_aload_n dChances_weigh_0 rfl rfl ?_
  refine zr_iload_n dChances_weigh_1 rfl ?_
  refine zr_putf f_Chances_33 dChances_weigh_2 rfl (Nat.le_of_ble_eq_true rfl) (fun _ => rfl) (fun _ => rfl) ?_
  refine zr_aload_n dChances_weigh_5 rfl rfl ?_
  refine zr_aload_n dChances_weigh_6 rfl rfl ?_
  refine zr_getf g_Chances_40 dChances_weigh_7 rfl rfl ?_
  refine zr_putf f_Chances_37 dChances_weigh_10 rfl (Nat.le_of_ble_eq_true rfl) (fun _ => rfl) (fun _ => rfl) ?_
  refine zr_aload_n dChances_weigh_13 rfl rfl ?_
  refine zr_invV (c_Shelf_differentWords (i := 3) (g := g) rfl rfl rfl (hok.ok (front := [_, _, _, _, _, _, _, _, _, _, _, _, _, _, _, _, _, _, _, _, _]) rfl) (by decide) ht) m_Shelf_differentWords k_Chances_43 v_Shelf_differentWords rfl rfl dChances_weigh_14 rfl (Nat.le_of_ble_eq_true rfl) (by decide) (Nat.le_of_ble_eq_true rfl) rfl (fun v w2 hp => ?_)
  obtain ⟨sn2, rfl, rfl⟩ := hp
  refine ⟨by rfl, ?_⟩
  refine zr_istore dChances_weigh_17 (by decide) ?_
  refine zr_iconst (v := nI 0) dChances_weigh_19 (by decide) ?_
  refine zr_istore dChances_weigh_20 (by decide) ?_
  exact lv0 sn2 fd fe fr (fun j hj => absurd hj (Nat.not_lt_zero j)) (fun j hj => absurd hj (Nat.not_lt_zero j)) (fun j hj => absurd hj (Nat.not_lt_zero j))
end
section
/-! WordEvidence: its world's first 25 cells, written out -/
abbrev zk_WE (n : Nat) : zw_C := .inr (0, [.int (nI n), .ref 2, .ref 4, .ref 7, .ref 10, .ref 14])
def zf_cls (x : Int32) : Nat := if x < nI 2 then 2 else if nI 4 < x then 4 else x.toNatClampNeg
theorem zf_cls_in (x : Int32) : 2 ≤ zf_cls x ∧ zf_cls x ≤ 4 ∧ (¬ x < nI 2 → ¬ nI 4 < x → x = nI (zf_cls x)) := by
  unfold zf_cls
  by_cases h1 : x < nI 2
  · rw [if_pos h1]; exact ⟨by omega, by omega, fun q => absurd h1 q⟩
  · rw [if_neg h1]
    by_cases h2 : nI 4 < x
    · rw [if_pos h2]; exact ⟨by omega, by omega, fun _ q => absurd h2 q⟩
    · rw [if_neg h2]
      have h3 : ¬ x < 0 := fun q => h1 (Int32.lt_trans q (by decide))
      obtain ⟨j, hj, rfl⟩ := nI_of h3
      rw [nI_ltI hj (by decide)] at h1
      rw [nI_ltI (by decide) hj] at h2
      rw [nI_clamp hj]
      exact ⟨by omega, by omega, fun _ _ => rfl⟩
theorem zf_cls_mm (x : Int32) : (if nI 2 < (if x < nI 4 then x else nI 4) then (if x < nI 4 then x else nI 4) else nI 2) = nI (zf_cls x) := by
  obtain ⟨h1, h2, h3⟩ := zf_cls_in x
  by_cases ha : x < nI 2
  · have hb : x < nI 4 := Int32.lt_trans ha (by decide)
    rw [if_pos hb, if_neg (fun q => Int32.lt_irrefl (Int32.lt_trans ha q))]
    unfold zf_cls
    rw [if_pos ha]
  · by_cases hb : nI 4 < x
    · rw [if_neg (fun q => Int32.lt_irrefl (Int32.lt_trans hb q)), if_pos (by decide)]
      unfold zf_cls
      rw [if_neg ha, if_pos hb]
    · have e := h3 ha hb
      generalize zf_cls x = k at *
      subst e
      rcases (show k = 2 ∨ k = 3 ∨ k = 4 by omega) with rfl | rfl | rfl <;> decide
set_option maxHeartbeats 4000000 in
set_option maxRecDepth 100000 in
theorem c_Chances_init {G : zw_G} {c0 c1 c2 c3 c4 c5 c6 c7 c8 c9 c10 c11 c12 : zw_C} : zw_Met G Y_Chances_init 2 11 118 [.ref 14] ([c0, c1, c2, c3, c4, c5, c6, c7, c8, c9, c10, c11, c12, .inr (4, [.null, .null, .null, .null, .null, .int 0, .int 0])]) (zw_is none [c0, c1, c2, c3, c4, c5, c6, c7, c8, c9, c10, c11, c12, zk_Ch 0 0, zk_I 4 (fun _ => 0), zk_A 4 zk_ga, zk_I 20 (fun _ => 0), zk_I 20 (fun _ => 0), zk_I 20 (fun _ => 0), zk_I 20 (fun _ => 0), zk_I 4 (fun _ => 0), zk_P 21, zk_L 12 (fun _ => 0), zk_P 23, zk_L 12 (fun _ => 0)]) := by
  show zw_Z G Y_Chances_init _ _ _ 0 0 0 [some (.ref 14)] [] _
  refine zr_aload_n dChances_init_0 rfl rfl ?_
  refine zr_objInit o_Chances_3 t_oi t_oc dChances_init_1 (by decide) ?_
  refine zr_aload_n dChances_init_4 rfl rfl ?_
  refine zr_iconst (v := nI 4) dChances_init_5 (by decide) ?_
  refine zr_newI t_arrI dChances_init_6 (by decide) (by decide) ?_
  refine zr_putF f_Chances_9 rfl dChances_init_8 rfl (Nat.le_of_ble_eq_true rfl) (fun _ => rfl) (fun _ => rfl) ?_
  refine zr_aload_n dChances_init_11 rfl rfl ?_
  refine zr_iconst (v := nI 4) dChances_init_12 (by decide) ?_
  refine zr_bipush (v := nI 20) dChances_init_13 (by decide) ?_
  refine zr_multi c_Chances_15 t_aoA t_arrI dChances_init_15 (by decide) ?_
  refine zr_putF f_Chances_17 rfl dChances_init_19 rfl (Nat.le_of_ble_eq_true rfl) (fun _ => rfl) (fun _ => rfl) ?_
  refine zr_aload_n dChances_init_22 rfl rfl ?_
  refine zr_iconst (v := nI 4) dChances_init_23 (by decide) ?_
  refine zr_newI t_arrI dChances_init_24 (by decide) (by decide) ?_
  refine zr_putF f_Chances_20 rfl dChances_init_26 rfl (Nat.le_of_ble_eq_true rfl) (fun _ => rfl) (fun _ => rfl) ?_
  refine zr_aload_n dChances_init_29 rfl rfl ?_
  refine zr_new nw_Chances_23 dChances_init_30 (by decide) ?_
  refine zr_dup dChances_init_33 rfl ?_
  refine zr_invI c_Product_init1 m_Product_init k_Chances_25 i_Product_init rfl dChances_init_34 rfl (Nat.le_of_ble_eq_true rfl) (by decide) (Nat.le_of_ble_eq_true rfl) rfl (fun v w2 hp => ?_)
  obtain ⟨rfl, rfl⟩ := hp
  refine ⟨rfl, ?_⟩
  refine zr_putF f_Chances_26 rfl dChances_init_37 rfl (Nat.le_of_ble_eq_true rfl) (fun _ => rfl) (fun _ => rfl) ?_
  refine zr_aload_n dChances_init_40 rfl rfl ?_
  refine zr_new nw_Chances_23 dChances_init_41 (by decide) ?_
  refine zr_dup dChances_init_44 rfl ?_
  refine zr_invI c_Product_init2 m_Product_init k_Chances_25 i_Product_init rfl dChances_init_45 rfl (Nat.le_of_ble_eq_true rfl) (by decide) (Nat.le_of_ble_eq_true rfl) rfl (fun v w2 hp => ?_)
  obtain ⟨rfl, rfl⟩ := hp
  refine ⟨rfl, ?_⟩
  refine zr_putF f_Chances_30 rfl dChances_init_48 rfl (Nat.le_of_ble_eq_true rfl) (fun _ => rfl) (fun _ => rfl) ?_
  refine zr_aload_n dChances_init_51 rfl rfl ?_
  refine zr_iconst (v := nI 0) dChances_init_52 (by decide) ?_
  refine zr_putf f_Chances_33 dChances_init_53 rfl (Nat.le_of_ble_eq_true rfl) (fun _ => rfl) (fun _ => rfl) ?_
  refine zr_aload_n dChances_init_56 rfl rfl ?_
  refine zr_iconst (v := nI 0) dChances_init_57 (by decide) ?_
  refine zr_putf f_Chances_37 dChances_init_58 rfl (Nat.le_of_ble_eq_true rfl) (fun _ => rfl) (fun _ => rfl) ?_
  exact zr_return dChances_init_61 rfl (⟨rfl, rfl⟩)
set_option maxHeartbeats 4000000 in
set_option maxRecDepth 100000 in
theorem c_WE_init {G : zw_G} {x : Int32} : zw_Met G Y_WE_init 3 24 694 [.ref 1, .int x] ([.inr (0, [.int 0, .null, .null, .null, .null, .null])]) (zw_is none [zk_WE (zf_cls x), zk_Text 0 0 0, zk_L 20 (fun _ => 0), zk_Sh 3, zk_D 32 (fun _ => none), zk_L 200 (fun _ => 0), zk_Sh 6, zk_D 32 (fun _ => none), zk_L 200 (fun _ => 0), zk_Log 0 0, zk_I 24 (fun _ => 0), zk_I 24 (fun _ => 0), zk_D 24 (fun _ => none), zk_Ch 0 0, zk_I 4 (fun _ => 0), zk_A 4 zk_ga, zk_I 20 ((fun _ _ => 0) 0), zk_I 20 ((fun _ _ => 0) 1), zk_I 20 ((fun _ _ => 0) 2), zk_I 20 ((fun _ _ => 0) 3), zk_I 4 (fun _ => 0), zk_P 21, zk_L 12 (fun _ => 0), zk_P 23, zk_L 12 (fun _ => 0)]) := by
  show zw_Z G Y_WE_init _ _ _ 0 0 0 [some (.ref 1), some (.int x)] [] _
  refine zr_aload_n dWE_init_0 rfl rfl ?_
  refine zr_objInit o_WE_1 t_oi t_oc dWE_init_1 (by decide) ?_
  refine zr_aload_n dWE_init_4 rfl rfl ?_
  refine zr_new nw_WE_7 dWE_init_5 (by decide) ?_
  refine zr_dup dWE_init_8 rfl ?_
  refine zr_invI c_Text_init m_Text_init k_WE_9 i_Text_init rfl dWE_init_9 rfl (Nat.le_of_ble_eq_true rfl) (by decide) (Nat.le_of_ble_eq_true rfl) rfl (fun v w2 hp => ?_)
  obtain ⟨rfl, rfl⟩ := hp
  refine ⟨rfl, ?_⟩
  refine zr_putF f_WE_10 rfl dWE_init_12 rfl (Nat.le_of_ble_eq_true rfl) (fun _ => rfl) (fun _ => rfl) ?_
  refine zr_aload_n dWE_init_15 rfl rfl ?_
  refine zr_new nw_WE_16 dWE_init_16 (by decide) ?_
  refine zr_dup dWE_init_19 rfl ?_
  refine zr_invI c_Shelf_init1 m_Shelf_init k_WE_18 i_Shelf_init rfl dWE_init_20 rfl (Nat.le_of_ble_eq_true rfl) (by decide) (Nat.le_of_ble_eq_true rfl) rfl (fun v w2 hp => ?_)
  obtain ⟨rfl, rfl⟩ := hp
  refine ⟨rfl, ?_⟩
  refine zr_putF f_WE_19 rfl dWE_init_23 rfl (Nat.le_of_ble_eq_true rfl) (fun _ => rfl) (fun _ => rfl) ?_
  refine zr_aload_n dWE_init_26 rfl rfl ?_
  refine zr_new nw_WE_16 dWE_init_27 (by decide) ?_
  refine zr_dup dWE_init_30 rfl ?_
  refine zr_invI c_Shelf_init2 m_Shelf_init k_WE_18 i_Shelf_init rfl dWE_init_31 rfl (Nat.le_of_ble_eq_true rfl) (by decide) (Nat.le_of_ble_eq_true rfl) rfl (fun v w2 hp => ?_)
  obtain ⟨rfl, rfl⟩ := hp
  refine ⟨rfl, ?_⟩
  refine zr_putF f_WE_23 rfl dWE_init_34 rfl (Nat.le_of_ble_eq_true rfl) (fun _ => rfl) (fun _ => rfl) ?_
  refine zr_aload_n dWE_init_37 rfl rfl ?_
  refine zr_new nw_WE_26 dWE_init_38 (by decide) ?_
  refine zr_dup dWE_init_41 rfl ?_
  refine zr_invI c_Log_init m_Log_init k_WE_28 i_Log_init rfl dWE_init_42 rfl (Nat.le_of_ble_eq_true rfl) (by decide) (Nat.le_of_ble_eq_true rfl) rfl (fun v w2 hp => ?_)
  obtain ⟨rfl, rfl⟩ := hp
  refine ⟨rfl, ?_⟩
  refine zr_putF f_WE_29 rfl dWE_init_45 rfl (Nat.le_of_ble_eq_true rfl) (fun _ => rfl) (fun _ => rfl) ?_
  refine zr_aload_n dWE_init_48 rfl rfl ?_
  refine zr_new nw_WE_33 dWE_init_49 (by decide) ?_
  refine zr_dup dWE_init_52 rfl ?_
  refine zr_invI c_Chances_init m_Chances_init k_WE_35 i_Chances_init rfl dWE_init_53 rfl (Nat.le_of_ble_eq_true rfl) (by decide) (Nat.le_of_ble_eq_true rfl) rfl (fun v w2 hp => ?_)
  obtain ⟨rfl, rfl⟩ := hp
  refine ⟨rfl, ?_⟩
  refine zr_putF f_WE_36 rfl dWE_init_56 rfl (Nat.le_of_ble_eq_true rfl) (fun _ => rfl) (fun _ => rfl) ?_
  refine zr_aload_n dWE_init_59 rfl rfl ?_
  refine zr_iconst (v := nI 2) dWE_init_60 (by decide) ?_
  refine zr_iconst (v := nI 4) dWE_init_61 (by decide) ?_
  refine zr_iload_n dWE_init_62 rfl ?_
  refine zr_mmin l_WE_40 t_mmin_s t_mI t_mmin_c dWE_init_63 (by decide) ?_
  refine zr_mmax l_WE_46 t_mmax_s t_mI t_mmax_c dWE_init_66 (by decide) ?_
  refine zr_topI (zf_cls_mm x) ?_
  refine zr_putF f_WE_49 rfl dWE_init_69 rfl (Nat.le_of_ble_eq_true rfl) (fun _ => rfl) (fun _ => rfl) ?_
  exact zr_return dWE_init_72 rfl (⟨rfl, rfl⟩)
set_option maxHeartbeats 4000000 in
set_option maxRecDepth 100000 in
theorem c_WE_words {G : zw_G} {n wc len run m pb cn cw : Nat} {tw s1 s2 l1 l2 : Nat → Int64} {g1 g2 pl : Nat → Option Nat} {ids bl fd fe : Nat → Int32} {fr : Nat → Nat → Int32} {r : zw_W} : zw_Met G Y_WE_words 0 0 0 [.ref 1] ((zk_WE n :: zk_Text wc len run :: zk_L 20 tw :: zk_Sh 3 :: zk_D 32 g1 :: zk_L 200 s1 :: zk_Sh 6 :: zk_D 32 g2 :: zk_L 200 s2 :: zk_Log m pb :: zk_I 24 ids :: zk_I 24 bl :: zk_D 24 pl :: zk_Ch cn cw :: zk_I 4 fd :: zk_A 4 zk_ga :: zk_I 20 (fr 0) :: zk_I 20 (fr 1) :: zk_I 20 (fr 2) :: zk_I 20 (fr 3) :: zk_I 4 fe :: zk_P 21 :: zk_L 12 l1 :: zk_P 23 :: zk_L 12 l2 :: r)) (zw_is (some (.int (nI wc))) (zk_WE n :: zk_Text wc len run :: zk_L 20 tw :: zk_Sh 3 :: zk_D 32 g1 :: zk_L 200 s1 :: zk_Sh 6 :: zk_D 32 g2 :: zk_L 200 s2 :: zk_Log m pb :: zk_I 24 ids :: zk_I 24 bl :: zk_D 24 pl :: zk_Ch cn cw :: zk_I 4 fd :: zk_A 4 zk_ga :: zk_I 20 (fr 0) :: zk_I 20 (fr 1) :: zk_I 20 (fr 2) :: zk_I 20 (fr 3) :: zk_I 4 fe :: zk_P 21 :: zk_L 12 l1 :: zk_P 23 :: zk_L 12 l2 :: r)) := by
  show zw_Z G Y_WE_words _ _ _ 0 0 0 [some (.ref 1)] [] _
  refine zr_aload_n dWE_words_0 rfl rfl ?_
  refine zr_getf g_WE_10 dWE_words_1 rfl rfl ?_
  refine zr_getf g_WE_61 dWE_words_4 rfl rfl ?_
  exact zr_ireturn dWE_words_7 rfl rfl (⟨rfl, rfl⟩)
set_option maxHeartbeats 4000000 in
set_option maxRecDepth 100000 in
theorem c_WE_pending {G : zw_G} {n wc len run m pb cn cw : Nat} {tw s1 s2 l1 l2 : Nat → Int64} {g1 g2 pl : Nat → Option Nat} {ids bl fd fe : Nat → Int32} {fr : Nat → Nat → Int32} {r : zw_W} : zw_Met G Y_WE_pending 0 0 0 [.ref 1] ((zk_WE n :: zk_Text wc len run :: zk_L 20 tw :: zk_Sh 3 :: zk_D 32 g1 :: zk_L 200 s1 :: zk_Sh 6 :: zk_D 32 g2 :: zk_L 200 s2 :: zk_Log m pb :: zk_I 24 ids :: zk_I 24 bl :: zk_D 24 pl :: zk_Ch cn cw :: zk_I 4 fd :: zk_A 4 zk_ga :: zk_I 20 (fr 0) :: zk_I 20 (fr 1) :: zk_I 20 (fr 2) :: zk_I 20 (fr 3) :: zk_I 4 fe :: zk_P 21 :: zk_L 12 l1 :: zk_P 23 :: zk_L 12 l2 :: r)) (zw_is (some (.int (nI pb))) (zk_WE n :: zk_Text wc len run :: zk_L 20 tw :: zk_Sh 3 :: zk_D 32 g1 :: zk_L 200 s1 :: zk_Sh 6 :: zk_D 32 g2 :: zk_L 200 s2 :: zk_Log m pb :: zk_I 24 ids :: zk_I 24 bl :: zk_D 24 pl :: zk_Ch cn cw :: zk_I 4 fd :: zk_A 4 zk_ga :: zk_I 20 (fr 0) :: zk_I 20 (fr 1) :: zk_I 20 (fr 2) :: zk_I 20 (fr 3) :: zk_I 4 fe :: zk_P 21 :: zk_L 12 l1 :: zk_P 23 :: zk_L 12 l2 :: r)) := by
  show zw_Z G Y_WE_pending _ _ _ 0 0 0 [some (.ref 1)] [] _
  refine zr_aload_n dWE_pending_0 rfl rfl ?_
  refine zr_getf g_WE_29 dWE_pending_1 rfl rfl ?_
  refine zr_getf g_WE_123 dWE_pending_4 rfl rfl ?_
  exact zr_ireturn dWE_pending_7 rfl rfl (⟨rfl, rfl⟩)
set_option maxHeartbeats 4000000 in
set_option maxRecDepth 100000 in
theorem c_WE_clear {G : zw_G} {n wc len run m pb cn cw : Nat} {tw s1 s2 l1 l2 : Nat → Int64} {g1 g2 pl : Nat → Option Nat} {ids bl fd fe : Nat → Int32} {fr : Nat → Nat → Int32} {r : zw_W} : zw_Met G Y_WE_clear 1 0 0 [.ref 1] ((zk_WE n :: zk_Text wc len run :: zk_L 20 tw :: zk_Sh 3 :: zk_D 32 g1 :: zk_L 200 s1 :: zk_Sh 6 :: zk_D 32 g2 :: zk_L 200 s2 :: zk_Log m pb :: zk_I 24 ids :: zk_I 24 bl :: zk_D 24 pl :: zk_Ch cn cw :: zk_I 4 fd :: zk_A 4 zk_ga :: zk_I 20 (fr 0) :: zk_I 20 (fr 1) :: zk_I 20 (fr 2) :: zk_I 20 (fr 3) :: zk_I 4 fe :: zk_P 21 :: zk_L 12 l1 :: zk_P 23 :: zk_L 12 l2 :: r)) (zw_is (some (.int (nI len))) (zk_WE n :: zk_Text 0 0 0 :: zk_L 20 tw :: zk_Sh 3 :: zk_D 32 g1 :: zk_L 200 s1 :: zk_Sh 6 :: zk_D 32 g2 :: zk_L 200 s2 :: zk_Log m pb :: zk_I 24 ids :: zk_I 24 bl :: zk_D 24 pl :: zk_Ch cn cw :: zk_I 4 fd :: zk_A 4 zk_ga :: zk_I 20 (fr 0) :: zk_I 20 (fr 1) :: zk_I 20 (fr 2) :: zk_I 20 (fr 3) :: zk_I 4 fe :: zk_P 21 :: zk_L 12 l1 :: zk_P 23 :: zk_L 12 l2 :: r)) := by
  show zw_Z G Y_WE_clear _ _ _ 0 0 0 [some (.ref 1)] [] _
  refine zr_aload_n dWE_clear_0 rfl rfl ?_
  refine zr_getf g_WE_10 dWE_clear_1 rfl rfl ?_
  refine zr_invV c_Text_empty m_Text_empty k_WE_57 v_Text_empty rfl rfl dWE_clear_4 rfl (Nat.le_of_ble_eq_true rfl) (by decide) (Nat.le_of_ble_eq_true rfl) rfl (fun v w2 hp => ?_)
  obtain ⟨rfl, rfl⟩ := hp
  refine ⟨rfl, ?_⟩
  exact zr_ireturn dWE_clear_7 rfl rfl (⟨rfl, rfl⟩)
set_option maxHeartbeats 4000000 in
set_option maxRecDepth 100000 in
theorem c_WE_key {G : zw_G} {n len m pb cn cw : Nat} {tw s1 s2 l1 l2 : Nat → Int64} {g1 g2 pl : Nat → Option Nat} {ids bl fd fe : Nat → Int32} {fr : Nat → Nat → Int32} {r : zw_W} {c : Nat} {s : wt_S} (hc : c < 65536) (hlen : len ≤ 40) (hok : wt_ok len s) (hr : s.2.2 < 1000) (htw : ∀ i, i < s.1 → tw i = lN (we_a (s.2.1 i))) :
    zw_Met G Y_WE_key 4 0 0 [.ref 1, .int (nI c)] (zk_WE n :: zk_Text s.1 len s.2.2 :: zk_L 20 tw :: zk_Sh 3 :: zk_D 32 g1 :: zk_L 200 s1 :: zk_Sh 6 :: zk_D 32 g2 :: zk_L 200 s2 :: zk_Log m pb :: zk_I 24 ids :: zk_I 24 bl :: zk_D 24 pl :: zk_Ch cn cw :: zk_I 4 fd :: zk_A 4 zk_ga :: zk_I 20 (fr 0) :: zk_I 20 (fr 1) :: zk_I 20 (fr 2) :: zk_I 20 (fr 3) :: zk_I 4 fe :: zk_P 21 :: zk_L 12 l1 :: zk_P 23 :: zk_L 12 l2 :: r) (fun v w2 => v = some (.int (zw_b (32 ≤ c ∧ c ≤ 126 ∧ len < 40))) ∧ ∃ tw2, w2 = (zk_WE n :: zk_Text (zf_key len s c).2.1 (zf_key len s c).1 (zf_key len s c).2.2.2 :: zk_L 20 tw2 :: zk_Sh 3 :: zk_D 32 g1 :: zk_L 200 s1 :: zk_Sh 6 :: zk_D 32 g2 :: zk_L 200 s2 :: zk_Log m pb :: zk_I 24 ids :: zk_I 24 bl :: zk_D 24 pl :: zk_Ch cn cw :: zk_I 4 fd :: zk_A 4 zk_ga :: zk_I 20 (fr 0) :: zk_I 20 (fr 1) :: zk_I 20 (fr 2) :: zk_I 20 (fr 3) :: zk_I 4 fe :: zk_P 21 :: zk_L 12 l1 :: zk_P 23 :: zk_L 12 l2 :: r) ∧ ∀ i, i < (zf_key len s c).2.1 → tw2 i = lN (we_a ((zf_key len s c).2.2.1 i))) := by
  show zw_Z G Y_WE_key _ _ _ 0 0 0 [some (.ref 1), some (.int (nI c))] [] _
  refine zr_aload_n dWE_key_0 rfl rfl ?_
  refine zr_getf g_WE_10 dWE_key_1 rfl rfl ?_
  refine zr_iload_n dWE_key_4 rfl ?_
  refine zr_invV (c_Text_append hc hlen hok hr htw) m_Text_append k_WE_53 v_Text_append rfl rfl dWE_key_5 rfl (Nat.le_of_ble_eq_true rfl) (by decide) (Nat.le_of_ble_eq_true rfl) rfl (fun v w2 hp => ?_)
  obtain ⟨rfl, tw2, rfl, ht2⟩ := hp
  refine ⟨rfl, ?_⟩
  exact zr_ireturn dWE_key_8 rfl zw_b_nar (⟨rfl, tw2, rfl, ht2⟩)
def zf_letter (wc : Nat) (X : Nat → Nat) (k i : Int32) : Int32 := if ¬ k < 0 ∧ k < nI wc then zf_at (X k.toNatClampNeg) i else -1
set_option maxHeartbeats 4000000 in
set_option maxRecDepth 100000 in
theorem c_WE_letter {G : zw_G} {n wc len run m pb cn cw : Nat} {tw s1 s2 l1 l2 : Nat → Int64} {g1 g2 pl : Nat → Option Nat} {ids bl fd fe : Nat → Int32} {fr : Nat → Nat → Int32} {r : zw_W} {X : Nat → Nat} {k i : Int32} (hwc : wc ≤ 20) (hX : ∀ j, j < wc → tw j = lN (X j) ∧ X j < 2 ^ 63) : zw_Met G Y_WE_letter 2 0 0 [.ref 1, .int k, .int i] ((zk_WE n :: zk_Text wc len run :: zk_L 20 tw :: zk_Sh 3 :: zk_D 32 g1 :: zk_L 200 s1 :: zk_Sh 6 :: zk_D 32 g2 :: zk_L 200 s2 :: zk_Log m pb :: zk_I 24 ids :: zk_I 24 bl :: zk_D 24 pl :: zk_Ch cn cw :: zk_I 4 fd :: zk_A 4 zk_ga :: zk_I 20 (fr 0) :: zk_I 20 (fr 1) :: zk_I 20 (fr 2) :: zk_I 20 (fr 3) :: zk_I 4 fe :: zk_P 21 :: zk_L 12 l1 :: zk_P 23 :: zk_L 12 l2 :: r)) (zw_is (some (.int (zf_letter wc X k i))) (zk_WE n :: zk_Text wc len run :: zk_L 20 tw :: zk_Sh 3 :: zk_D 32 g1 :: zk_L 200 s1 :: zk_Sh 6 :: zk_D 32 g2 :: zk_L 200 s2 :: zk_Log m pb :: zk_I 24 ids :: zk_I 24 bl :: zk_D 24 pl :: zk_Ch cn cw :: zk_I 4 fd :: zk_A 4 zk_ga :: zk_I 20 (fr 0) :: zk_I 20 (fr 1) :: zk_I 20 (fr 2) :: zk_I 20 (fr 3) :: zk_I 4 fe :: zk_P 21 :: zk_L 12 l1 :: zk_P 23 :: zk_L 12 l2 :: r)) := by
  show zw_Z G Y_WE_letter _ _ _ 0 0 0 [some (.ref 1), some (.int k), some (.int i)] [] _
  refine zr_aload_n dWE_letter_0 rfl rfl ?_
  refine zr_getf g_WE_10 dWE_letter_1 rfl rfl ?_
  refine zr_iload_n dWE_letter_4 rfl ?_
  refine zr_invV c_Text_hasWord m_Text_hasWord k_WE_64 v_Text_hasWord rfl rfl dWE_letter_5 rfl (Nat.le_of_ble_eq_true rfl) (by decide) (Nat.le_of_ble_eq_true rfl) rfl (fun v w2 hp => ?_)
  obtain ⟨rfl, rfl⟩ := hp
  refine ⟨rfl, ?_⟩
  refine zr_if_neB (tgt := 13) dWE_letter_8 (by decide) (fun h8 => ?_) (fun h8 => ?_)
  · obtain ⟨j, hj, rfl⟩ := zf_rng (by omega) h8.1 h8.2
    refine zr_aload_n dWE_letter_13 rfl rfl ?_
    refine zr_getf g_WE_10 dWE_letter_14 rfl rfl ?_
    refine zr_getf g_WE_68 dWE_letter_17 rfl rfl ?_
    refine zr_iload_n dWE_letter_20 rfl ?_
    refine zr_lald dWE_letter_21 rfl (by omega) (by decide) ?_
    refine zr_topL (hX j hj).1 ?_
    refine zr_iload_n dWE_letter_22 rfl ?_
    refine zr_invS (c_Letters_at (hX j hj).2) m_Letters_at k_WE_72 (s_Letters_at) dWE_letter_23 rfl (Nat.le_of_ble_eq_true rfl) (by decide) (Nat.le_of_ble_eq_true rfl) rfl (fun v w2 hp => ?_)
    obtain ⟨rfl, rfl⟩ := hp
    refine ⟨rfl, ?_⟩
    exact zr_ireturn dWE_letter_26 rfl rfl (⟨congrArg (fun x => some (Value.int x)) (by unfold zf_letter; rw [if_pos h8, nI_clamp (by omega)]), rfl⟩)
  · refine zr_iconst (v := (-1)) dWE_letter_11 (by decide) ?_
    exact zr_ireturn dWE_letter_12 rfl rfl (⟨congrArg (fun x => some (Value.int x)) (if_neg h8).symm, rfl⟩)
set_option maxHeartbeats 4000000 in
set_option maxRecDepth 100000 in
theorem c_WE_blocks {G : zw_G} {w : zw_W} {a : Nat} (ha : a < 1000) : zw_Met G Y_WE_blocksToTrain 0 0 0 [.int (nI a)] (w) (zw_is (some (.int (nI (1 + (a + 4 - 1) / 4)))) w) := by
  show zw_Z G Y_WE_blocksToTrain _ _ _ 0 0 0 [some (.int (nI a))] [] _
  refine zr_iconst (v := nI 1) dWE_blocksToTrain_0 (by decide) ?_
  refine zr_iload_n dWE_blocksToTrain_1 rfl ?_
  refine zr_iconst (v := nI 4) dWE_blocksToTrain_2 (by decide) ?_
  refine zr_iaddN dWE_blocksToTrain_3 ?_
  refine zr_iconst (v := nI 1) dWE_blocksToTrain_4 (by decide) ?_
  refine zr_isubN (by omega) dWE_blocksToTrain_5 ?_
  refine zr_iconst (v := nI 4) dWE_blocksToTrain_6 (by decide) ?_
  refine zr_idivN (by omega) (by decide) (by decide) dWE_blocksToTrain_7 ?_
  refine zr_iaddN dWE_blocksToTrain_8 ?_
  exact zr_ireturn dWE_blocksToTrain_9 rfl rfl (⟨rfl, rfl⟩)
set_option maxHeartbeats 4000000 in
set_option maxRecDepth 100000 in
theorem c_WE_change_some {G : zw_G} {n wc len run m pb cn cw : Nat} {tw s1 s2 l1 l2 : Nat → Int64} {g1 g2 pl : Nat → Option Nat} {ids bl fd fe : Nat → Int32} {fr : Nat → Nat → Int32} {r : zw_W} {id a : Nat} (hm : m < 24) (hid : id < 32) {k : Nat} {vs : List Value} (hq : r[k + 14]? = some (.inr (6, vs))) : zw_Met G Y_WE_change 2 0 0 [.ref 1, .int (nI id), .ref (k + 40), .int (nI a)] ((zk_WE n :: zk_Text wc len run :: zk_L 20 tw :: zk_Sh 3 :: zk_D 32 g1 :: zk_L 200 s1 :: zk_Sh 6 :: zk_D 32 g2 :: zk_L 200 s2 :: zk_Log m pb :: zk_I 24 ids :: zk_I 24 bl :: zk_D 24 pl :: zk_Ch cn cw :: zk_I 4 fd :: zk_A 4 zk_ga :: zk_I 20 (fr 0) :: zk_I 20 (fr 1) :: zk_I 20 (fr 2) :: zk_I 20 (fr 3) :: zk_I 4 fe :: zk_P 21 :: zk_L 12 l1 :: zk_P 23 :: zk_L 12 l2 :: r)) (zw_is none (zk_WE n :: zk_Text wc len run :: zk_L 20 tw :: zk_Sh 3 :: zk_D 32 (va_up g1 id (some (k + 40))) :: zk_L 200 s1 :: zk_Sh 6 :: zk_D 32 g2 :: zk_L 200 s2 :: zk_Log (m + 1) (pb + a) :: zk_I 24 (upd ids m (nI id)) :: zk_I 24 (upd bl m (nI a)) :: zk_D 24 (va_up pl m (some (k + 40))) :: zk_Ch cn cw :: zk_I 4 fd :: zk_A 4 zk_ga :: zk_I 20 (fr 0) :: zk_I 20 (fr 1) :: zk_I 20 (fr 2) :: zk_I 20 (fr 3) :: zk_I 4 fe :: zk_P 21 :: zk_L 12 l1 :: zk_P 23 :: zk_L 12 l2 :: r)) := by
  show zw_Z G Y_WE_change _ _ _ 0 0 0 [some (.ref 1), some (.int (nI id)), some (.ref (k + 40)), some (.int (nI a))] [] _
  refine zr_aload_n dWE_change_0 rfl rfl ?_
  refine zr_getf g_WE_29 dWE_change_1 rfl rfl ?_
  refine zr_iload_n dWE_change_4 rfl ?_
  refine zr_aload_n dWE_change_5 rfl rfl ?_
  refine zr_iload_n dWE_change_6 rfl ?_
  refine zr_invV (c_Log_write_some hm (k := k) (vs := vs) hq) m_Log_write k_WE_152 v_Log_write rfl rfl dWE_change_7 rfl (Nat.le_of_ble_eq_true rfl) (by decide) (Nat.le_of_ble_eq_true rfl) rfl (fun v w2 hp => ?_)
  obtain ⟨rfl, rfl⟩ := hp
  refine ⟨rfl, ?_⟩
  refine zr_aload_n dWE_change_10 rfl rfl ?_
  refine zr_getf g_WE_19 dWE_change_11 rfl rfl ?_
  refine zr_iload_n dWE_change_14 rfl ?_
  refine zr_aload_n dWE_change_15 rfl rfl ?_
  refine zr_invV (c_Shelf_put_some (i := 3) rfl rfl hid (q := k + 39) hq) m_Shelf_put k_WE_155 v_Shelf_put rfl rfl dWE_change_16 rfl (Nat.le_of_ble_eq_true rfl) (by decide) (Nat.le_of_ble_eq_true rfl) rfl (fun v w2 hp => ?_)
  obtain ⟨rfl, rfl⟩ := hp
  refine ⟨rfl, ?_⟩
  exact zr_return dWE_change_19 rfl (⟨rfl, rfl⟩)
set_option maxHeartbeats 4000000 in
set_option maxRecDepth 100000 in
theorem c_WE_change_none {G : zw_G} {n wc len run m pb cn cw : Nat} {tw s1 s2 l1 l2 : Nat → Int64} {g1 g2 pl : Nat → Option Nat} {ids bl fd fe : Nat → Int32} {fr : Nat → Nat → Int32} {r : zw_W} {id a : Nat} (hm : m < 24) (hid : id < 32) : zw_Met G Y_WE_change 2 0 0 [.ref 1, .int (nI id), .null, .int (nI a)] ((zk_WE n :: zk_Text wc len run :: zk_L 20 tw :: zk_Sh 3 :: zk_D 32 g1 :: zk_L 200 s1 :: zk_Sh 6 :: zk_D 32 g2 :: zk_L 200 s2 :: zk_Log m pb :: zk_I 24 ids :: zk_I 24 bl :: zk_D 24 pl :: zk_Ch cn cw :: zk_I 4 fd :: zk_A 4 zk_ga :: zk_I 20 (fr 0) :: zk_I 20 (fr 1) :: zk_I 20 (fr 2) :: zk_I 20 (fr 3) :: zk_I 4 fe :: zk_P 21 :: zk_L 12 l1 :: zk_P 23 :: zk_L 12 l2 :: r)) (zw_is none (zk_WE n :: zk_Text wc len run :: zk_L 20 tw :: zk_Sh 3 :: zk_D 32 (va_up g1 id none) :: zk_L 200 s1 :: zk_Sh 6 :: zk_D 32 g2 :: zk_L 200 s2 :: zk_Log (m + 1) (pb + a) :: zk_I 24 (upd ids m (nI id)) :: zk_I 24 (upd bl m (nI a)) :: zk_D 24 (va_up pl m none) :: zk_Ch cn cw :: zk_I 4 fd :: zk_A 4 zk_ga :: zk_I 20 (fr 0) :: zk_I 20 (fr 1) :: zk_I 20 (fr 2) :: zk_I 20 (fr 3) :: zk_I 4 fe :: zk_P 21 :: zk_L 12 l1 :: zk_P 23 :: zk_L 12 l2 :: r)) := by
  show zw_Z G Y_WE_change _ _ _ 0 0 0 [some (.ref 1), some (.int (nI id)), some (.null), some (.int (nI a))] [] _
  refine zr_aload_n dWE_change_0 rfl rfl ?_
  refine zr_getf g_WE_29 dWE_change_1 rfl rfl ?_
  refine zr_iload_n dWE_change_4 rfl ?_
  refine zr_aload_n dWE_change_5 rfl rfl ?_
  refine zr_iload_n dWE_change_6 rfl ?_
  refine zr_invV (c_Log_write_none hm) m_Log_write k_WE_152 v_Log_write rfl rfl dWE_change_7 rfl (Nat.le_of_ble_eq_true rfl) (by decide) (Nat.le_of_ble_eq_true rfl) rfl (fun v w2 hp => ?_)
  obtain ⟨rfl, rfl⟩ := hp
  refine ⟨rfl, ?_⟩
  refine zr_aload_n dWE_change_10 rfl rfl ?_
  refine zr_getf g_WE_19 dWE_change_11 rfl rfl ?_
  refine zr_iload_n dWE_change_14 rfl ?_
  refine zr_aload_n dWE_change_15 rfl rfl ?_
  refine zr_invV (c_Shelf_put_none (i := 3) rfl rfl hid) m_Shelf_put k_WE_155 v_Shelf_put rfl rfl dWE_change_16 rfl (Nat.le_of_ble_eq_true rfl) (by decide) (Nat.le_of_ble_eq_true rfl) rfl (fun v w2 hp => ?_)
  obtain ⟨rfl, rfl⟩ := hp
  refine ⟨rfl, ?_⟩
  exact zr_return dWE_change_19 rfl (⟨rfl, rfl⟩)
end
section
set_option maxHeartbeats 4000000 in
set_option maxRecDepth 100000 in
theorem c_WE_sync {G : zw_G} {n wc len run m pb cn cw : Nat} {tw s1 s2 l1 l2 : Nat → Int64} {g1 g2 pl : Nat → Option Nat} {ids bl fd fe : Nat → Int32} {fr : Nat → Nat → Int32} {r : zw_W} (hd : ∀ id, id < 32 → ∀ x, g1 id = some x → ∃ q vs, x = q + 40 ∧ r[q + 14]? = some (.inr (6, vs))) : zw_Met G Y_WE_sync 1 0 0 [.ref 1] ((zk_WE n :: zk_Text wc len run :: zk_L 20 tw :: zk_Sh 3 :: zk_D 32 g1 :: zk_L 200 s1 :: zk_Sh 6 :: zk_D 32 g2 :: zk_L 200 s2 :: zk_Log m pb :: zk_I 24 ids :: zk_I 24 bl :: zk_D 24 pl :: zk_Ch cn cw :: zk_I 4 fd :: zk_A 4 zk_ga :: zk_I 20 (fr 0) :: zk_I 20 (fr 1) :: zk_I 20 (fr 2) :: zk_I 20 (fr 3) :: zk_I 4 fe :: zk_P 21 :: zk_L 12 l1 :: zk_P 23 :: zk_L 12 l2 :: r)) (zw_is (some (.int (nI pb))) (zk_WE n :: zk_Text wc len run :: zk_L 20 tw :: zk_Sh 3 :: zk_D 32 g1 :: zk_L 200 s1 :: zk_Sh 6 :: zk_D 32 (fun j => if j < 32 then g1 j else g2 j) :: zk_L 200 s2 :: zk_Log 0 0 :: zk_I 24 ids :: zk_I 24 bl :: zk_D 24 pl :: zk_Ch cn cw :: zk_I 4 fd :: zk_A 4 zk_ga :: zk_I 20 (fr 0) :: zk_I 20 (fr 1) :: zk_I 20 (fr 2) :: zk_I 20 (fr 3) :: zk_I 4 fe :: zk_P 21 :: zk_L 12 l1 :: zk_P 23 :: zk_L 12 l2 :: r)) := by
  show zw_Z G Y_WE_sync _ _ _ 0 0 0 [some (.ref 1)] [] _
  refine zr_aload_n dWE_sync_0 rfl rfl ?_
  refine zr_getf g_WE_23 dWE_sync_1 rfl rfl ?_
  refine zr_aload_n dWE_sync_4 rfl rfl ?_
  refine zr_getf g_WE_19 dWE_sync_5 rfl rfl ?_
  refine zr_invV (c_Shelf_copyFrom (i := 6) (i2 := 3) rfl rfl rfl rfl (by decide) (by decide) (fun id hid x hx => by obtain ⟨q, vs, h1, h2⟩ := hd id hid x hx; exact ⟨q + 39, vs, h1, by omega, h2⟩)) m_Shelf_copyFrom k_WE_114 v_Shelf_copyFrom rfl rfl dWE_sync_8 rfl (Nat.le_of_ble_eq_true rfl) (by decide) (Nat.le_of_ble_eq_true rfl) rfl (fun v w2 hp => ?_)
  obtain ⟨rfl, rfl⟩ := hp
  refine ⟨rfl, ?_⟩
  refine zr_aload_n dWE_sync_11 rfl rfl ?_
  refine zr_getf g_WE_29 dWE_sync_12 rfl rfl ?_
  refine zr_invV c_Log_empty m_Log_empty k_WE_118 v_Log_empty rfl rfl dWE_sync_15 rfl (Nat.le_of_ble_eq_true rfl) (by decide) (Nat.le_of_ble_eq_true rfl) rfl (fun v w2 hp => ?_)
  obtain ⟨rfl, rfl⟩ := hp
  refine ⟨rfl, ?_⟩
  exact zr_ireturn dWE_sync_18 rfl rfl (⟨rfl, rfl⟩)
theorem zl_app_doc {li : Nat → Nat} {pl g : Nat → Option Nat} {P : Nat → Prop} {m : Nat} (hg : ∀ id, id < 32 → ∀ x, g id = some x → P x) (hp : ∀ j, j < m → ∀ x, pl j = some x → P x) : ∀ k, k ≤ m → ∀ id, id < 32 → ∀ x, zl_app li pl g k id = some x → P x := by
  intro k
  induction k with
  | zero => intro _; exact hg
  | succ k ih =>
    intro hk id hid x hx
    rw [zl_app] at hx
    unfold va_up at hx
    split at hx
    · exact hp k (by omega) x hx
    · exact ih (by omega) id hid x hx
set_option maxHeartbeats 4000000 in
set_option maxRecDepth 100000 in
theorem c_WE_fail {G : zw_G} {n wc len run m pb cn cw : Nat} {tw s1 s2 l1 l2 : Nat → Int64} {g1 g2 pl : Nat → Option Nat} {ids bl fd fe : Nat → Int32} {fr : Nat → Nat → Int32} {r : zw_W} {li lb : Nat → Nat} {x : Int32} (hm : m ≤ 24) (hids : ∀ j, j < m → ids j = nI (li j)) (hbl : ∀ j, j < m → bl j = nI (lb j)) (h32 : ∀ j, j < m → li j < 32) (hsum : wn_sum lb m ≤ 24) (hd : ∀ j, j < m → ∀ q, pl j = some q → ∃ k vs, q = k + 40 ∧ r[k + 14]? = some (.inr (6, vs))) (hd2 : ∀ id, id < 32 → ∀ x, g2 id = some x → ∃ q vs, x = q + 40 ∧ r[q + 14]? = some (.inr (6, vs))) : zw_Met G Y_WE_fail 3 0 0 [.ref 1, .int x] (zk_WE n :: zk_Text wc len run :: zk_L 20 tw :: zk_Sh 3 :: zk_D 32 g1 :: zk_L 200 s1 :: zk_Sh 6 :: zk_D 32 g2 :: zk_L 200 s2 :: zk_Log m pb :: zk_I 24 ids :: zk_I 24 bl :: zk_D 24 pl :: zk_Ch cn cw :: zk_I 4 fd :: zk_A 4 zk_ga :: zk_I 20 (fr 0) :: zk_I 20 (fr 1) :: zk_I 20 (fr 2) :: zk_I 20 (fr 3) :: zk_I 4 fe :: zk_P 21 :: zk_L 12 l1 :: zk_P 23 :: zk_L 12 l2 :: r) (fun v w2 => ∃ k, zl_done m lb x k ∧ v = some (.int (nI (m - k))) ∧ w2 = (zk_WE n :: zk_Text wc len run :: zk_L 20 tw :: zk_Sh 3 :: zk_D 32 (fun j => if j < 32 then (zl_app li pl g2 k) j else g1 j) :: zk_L 200 s1 :: zk_Sh 6 :: zk_D 32 (zl_app li pl g2 k) :: zk_L 200 s2 :: zk_Log 0 0 :: zk_I 24 ids :: zk_I 24 bl :: zk_D 24 pl :: zk_Ch cn cw :: zk_I 4 fd :: zk_A 4 zk_ga :: zk_I 20 (fr 0) :: zk_I 20 (fr 1) :: zk_I 20 (fr 2) :: zk_I 20 (fr 3) :: zk_I 4 fe :: zk_P 21 :: zk_L 12 l1 :: zk_P 23 :: zk_L 12 l2 :: r)) := by
  show zw_Z G Y_WE_fail _ _ _ 0 0 0 [some (.ref 1), some (.int x), none] [] _
  refine zr_aload_n dWE_fail_0 rfl rfl ?_
  refine zr_getf g_WE_29 dWE_fail_1 rfl rfl ?_
  refine zr_aload_n dWE_fail_4 rfl rfl ?_
  refine zr_getf g_WE_23 dWE_fail_5 rfl rfl ?_
  refine zr_iload_n dWE_fail_8 rfl ?_
  refine zr_invV (c_Log_replayOn hm hids hbl h32 hsum hd) m_Log_replayOn k_WE_119 v_Log_replayOn rfl rfl dWE_fail_9 rfl (Nat.le_of_ble_eq_true rfl) (by decide) (Nat.le_of_ble_eq_true rfl) rfl (fun v w2 hp => ?_)
  obtain ⟨k, hk, rfl, rfl⟩ := hp
  have hd3 := zl_app_doc (li := li) hd2 hd k hk.1
  refine ⟨rfl, ?_⟩
  refine zr_istore_n dWE_fail_12 (by decide) ?_
  refine zr_aload_n dWE_fail_13 rfl rfl ?_
  refine zr_getf g_WE_19 dWE_fail_14 rfl rfl ?_
  refine zr_aload_n dWE_fail_17 rfl rfl ?_
  refine zr_getf g_WE_23 dWE_fail_18 rfl rfl ?_
  refine zr_invV (c_Shelf_copyFrom (i := 3) (i2 := 6) rfl rfl rfl rfl (by decide) (by decide) (fun id hid x hx => by obtain ⟨q, vs, h1, h2⟩ := hd3 id hid x hx; exact ⟨q + 39, vs, h1, by omega, h2⟩)) m_Shelf_copyFrom k_WE_114 v_Shelf_copyFrom rfl rfl dWE_fail_21 rfl (Nat.le_of_ble_eq_true rfl) (by decide) (Nat.le_of_ble_eq_true rfl) rfl (fun v w2 hp => ?_)
  obtain ⟨rfl, rfl⟩ := hp
  refine ⟨rfl, ?_⟩
  refine zr_aload_n dWE_fail_24 rfl rfl ?_
  refine zr_getf g_WE_29 dWE_fail_25 rfl rfl ?_
  refine zr_invV c_Log_empty m_Log_empty k_WE_118 v_Log_empty rfl rfl dWE_fail_28 rfl (Nat.le_of_ble_eq_true rfl) (by decide) (Nat.le_of_ble_eq_true rfl) rfl (fun v w2 hp => ?_)
  obtain ⟨rfl, rfl⟩ := hp
  refine ⟨rfl, ?_⟩
  refine zr_pop dWE_fail_31 rfl ?_
  refine zr_iload_n dWE_fail_32 rfl ?_
  exact zr_ireturn dWE_fail_33 rfl rfl (⟨k, hk, rfl, rfl⟩)
def zf_docs (n : Nat) (g : Nat → Option Nat) (dc : Nat → Nat) (c : Int32) : Int32 := if c = -1 then nI (zs_size g 32) else if ¬ c < 0 ∧ c < nI n then nI (zc_D g dc c.toNatClampNeg) else -1
def zf_total (n : Nat) (g : Nat → Option Nat) (dc dn : Nat → Nat) (c : Int32) : Int32 := if ¬ c < 0 ∧ c < nI n then nI (zs_sum g dc c.toNatClampNeg dn 32) else -1
def zf_count (n wc : Nat) (g : Nat → Option Nat) (dc dn : Nat → Nat) (df : Nat → Nat → Int64) (tw : Nat → Int64) (c k : Int32) : Int32 := if (¬ c < 0 ∧ c < nI n) ∧ (¬ k < 0 ∧ k < nI wc) then nI (zc_T g dc dn df c.toNatClampNeg (tw k.toNatClampNeg)) else -1
def zf_label (g : Nat → Option Nat) (dc : Nat → Nat) (id : Int32) : Int32 := if (¬ id < 0 ∧ id < nI 32) ∧ g id.toNatClampNeg ≠ none then nI (dc id.toNatClampNeg) else -1
set_option maxHeartbeats 4000000 in
set_option maxRecDepth 100000 in
theorem c_WE_documents {G : zw_G} {n wc len run m pb cn cw : Nat} {tw s1 s2 l1 l2 : Nat → Int64} {g1 g2 pl : Nat → Option Nat} {ids bl fd fe : Nat → Int32} {fr : Nat → Nat → Int32} {r : zw_W} {c : Int32} (hn4 : n ≤ 4) {dc dn : Nat → Nat} {df : Nat → Nat → Int64} (hok : zs_okR 14 r g1 dc dn df) : zw_Met G Y_WE_documents 1 0 0 [.ref 1, .int c] ((zk_WE n :: zk_Text wc len run :: zk_L 20 tw :: zk_Sh 3 :: zk_D 32 g1 :: zk_L 200 s1 :: zk_Sh 6 :: zk_D 32 g2 :: zk_L 200 s2 :: zk_Log m pb :: zk_I 24 ids :: zk_I 24 bl :: zk_D 24 pl :: zk_Ch cn cw :: zk_I 4 fd :: zk_A 4 zk_ga :: zk_I 20 (fr 0) :: zk_I 20 (fr 1) :: zk_I 20 (fr 2) :: zk_I 20 (fr 3) :: zk_I 4 fe :: zk_P 21 :: zk_L 12 l1 :: zk_P 23 :: zk_L 12 l2 :: r)) (zw_is (some (.int (zf_docs n g1 dc c))) (zk_WE n :: zk_Text wc len run :: zk_L 20 tw :: zk_Sh 3 :: zk_D 32 g1 :: zk_L 200 s1 :: zk_Sh 6 :: zk_D 32 g2 :: zk_L 200 s2 :: zk_Log m pb :: zk_I 24 ids :: zk_I 24 bl :: zk_D 24 pl :: zk_Ch cn cw :: zk_I 4 fd :: zk_A 4 zk_ga :: zk_I 20 (fr 0) :: zk_I 20 (fr 1) :: zk_I 20 (fr 2) :: zk_I 20 (fr 3) :: zk_I 4 fe :: zk_P 21 :: zk_L 12 l1 :: zk_P 23 :: zk_L 12 l2 :: r)) := by
  show zw_Z G Y_WE_documents _ _ _ 0 0 0 [some (.ref 1), some (.int c)] [] _
  refine zr_iload_n dWE_documents_0 rfl ?_
  refine zr_iconst (v := (-1)) dWE_documents_1 (by decide) ?_
  refine zr_icmp_ne (tgt := 13) dWE_documents_2 (by decide) (fun h2 => ?_) (fun h2 => ?_)
  · refine zr_aload_n dWE_documents_13 rfl rfl ?_
    refine zr_iload_n dWE_documents_14 rfl ?_
    refine zr_invV (c_WE_isClass (i := 0) rfl) m_WE_isClass k_WE_81 v_WE_isClass rfl rfl dWE_documents_15 rfl (Nat.le_of_ble_eq_true rfl) (by decide) (Nat.le_of_ble_eq_true rfl) rfl (fun v w2 hp => ?_)
    obtain ⟨rfl, rfl⟩ := hp
    refine ⟨rfl, ?_⟩
    refine zr_if_eqB (tgt := 32) dWE_documents_18 (by decide) (fun h18 => ?_) (fun h18 => ?_)
    · refine zr_iconst (v := (-1)) dWE_documents_32 (by decide) ?_
      exact zr_ireturn dWE_documents_33 rfl rfl (⟨congrArg (fun x => some (Value.int x)) (by unfold zf_docs; rw [if_neg h2]; first | rw [if_neg h18] | (rw [if_pos h18, nI_clamp (by omega)]; rfl)), rfl⟩)
    · obtain ⟨j, hj, rfl⟩ := zf_rng (by omega) h18.1 h18.2
      refine zr_aload_n dWE_documents_21 rfl rfl ?_
      refine zr_getf g_WE_19 dWE_documents_22 rfl rfl ?_
      refine zr_iload_n dWE_documents_25 rfl ?_
      refine zr_invV (c_Shelf_documentsOf (i := 3) rfl rfl (hok.ok (front := [_, _, _, _, _, _, _, _, _, _, _, _, _, _, _, _, _, _, _, _, _, _, _, _, _]) rfl) (by omega)) m_Shelf_documentsOf k_WE_126 v_Shelf_documentsOf rfl rfl dWE_documents_26 rfl (Nat.le_of_ble_eq_true rfl) (by decide) (Nat.le_of_ble_eq_true rfl) rfl (fun v w2 hp => ?_)
      obtain ⟨rfl, rfl⟩ := hp
      refine ⟨rfl, ?_⟩
      refine zr_goto (tgt := 33) dWE_documents_29 (by decide) ?_
      exact zr_ireturn dWE_documents_33 rfl rfl (⟨congrArg (fun x => some (Value.int x)) (by unfold zf_docs; rw [if_neg h2]; first | rw [if_neg h18] | (rw [if_pos h18, nI_clamp (by omega)]; rfl)), rfl⟩)
  · refine zr_aload_n dWE_documents_5 rfl rfl ?_
    refine zr_getf g_WE_19 dWE_documents_6 rfl rfl ?_
    refine zr_invV (c_Shelf_size (i := 3) rfl rfl) m_Shelf_size k_WE_88 v_Shelf_size rfl rfl dWE_documents_9 rfl (Nat.le_of_ble_eq_true rfl) (by decide) (Nat.le_of_ble_eq_true rfl) rfl (fun v w2 hp => ?_)
    obtain ⟨rfl, rfl⟩ := hp
    refine ⟨rfl, ?_⟩
    exact zr_ireturn dWE_documents_12 rfl rfl (⟨congrArg (fun x => some (Value.int x)) (by unfold zf_docs; rw [if_pos h2]), rfl⟩)
set_option maxHeartbeats 4000000 in
set_option maxRecDepth 100000 in
theorem c_WE_total {G : zw_G} {n wc len run m pb cn cw : Nat} {tw s1 s2 l1 l2 : Nat → Int64} {g1 g2 pl : Nat → Option Nat} {ids bl fd fe : Nat → Int32} {fr : Nat → Nat → Int32} {r : zw_W} {c : Int32} (hn4 : n ≤ 4) {dc dn : Nat → Nat} {df : Nat → Nat → Int64} (hok : zs_okR 14 r g1 dc dn df) : zw_Met G Y_WE_total 1 0 0 [.ref 1, .int c] ((zk_WE n :: zk_Text wc len run :: zk_L 20 tw :: zk_Sh 3 :: zk_D 32 g1 :: zk_L 200 s1 :: zk_Sh 6 :: zk_D 32 g2 :: zk_L 200 s2 :: zk_Log m pb :: zk_I 24 ids :: zk_I 24 bl :: zk_D 24 pl :: zk_Ch cn cw :: zk_I 4 fd :: zk_A 4 zk_ga :: zk_I 20 (fr 0) :: zk_I 20 (fr 1) :: zk_I 20 (fr 2) :: zk_I 20 (fr 3) :: zk_I 4 fe :: zk_P 21 :: zk_L 12 l1 :: zk_P 23 :: zk_L 12 l2 :: r)) (zw_is (some (.int (zf_total n g1 dc dn c))) (zk_WE n :: zk_Text wc len run :: zk_L 20 tw :: zk_Sh 3 :: zk_D 32 g1 :: zk_L 200 s1 :: zk_Sh 6 :: zk_D 32 g2 :: zk_L 200 s2 :: zk_Log m pb :: zk_I 24 ids :: zk_I 24 bl :: zk_D 24 pl :: zk_Ch cn cw :: zk_I 4 fd :: zk_A 4 zk_ga :: zk_I 20 (fr 0) :: zk_I 20 (fr 1) :: zk_I 20 (fr 2) :: zk_I 20 (fr 3) :: zk_I 4 fe :: zk_P 21 :: zk_L 12 l1 :: zk_P 23 :: zk_L 12 l2 :: r)) := by
  show zw_Z G Y_WE_total _ _ _ 0 0 0 [some (.ref 1), some (.int c)] [] _
  refine zr_aload_n dWE_total_0 rfl rfl ?_
  refine zr_iload_n dWE_total_1 rfl ?_
  refine zr_invV (c_WE_isClass (i := 0) rfl) m_WE_isClass k_WE_81 v_WE_isClass rfl rfl dWE_total_2 rfl (Nat.le_of_ble_eq_true rfl) (by decide) (Nat.le_of_ble_eq_true rfl) rfl (fun v w2 hp => ?_)
  obtain ⟨rfl, rfl⟩ := hp
  refine ⟨rfl, ?_⟩
  refine zr_if_eqB (tgt := 19) dWE_total_5 (by decide) (fun h5 => ?_) (fun h5 => ?_)
  · refine zr_iconst (v := (-1)) dWE_total_19 (by decide) ?_
    exact zr_ireturn dWE_total_20 rfl rfl (⟨congrArg (fun x => some (Value.int x)) (by unfold zf_total; first | rw [if_neg h5] | rw [if_pos h5, nI_clamp (by omega)]), rfl⟩)
  · obtain ⟨j, hj, rfl⟩ := zf_rng (by omega) h5.1 h5.2
    refine zr_aload_n dWE_total_8 rfl rfl ?_
    refine zr_getf g_WE_19 dWE_total_9 rfl rfl ?_
    refine zr_iload_n dWE_total_12 rfl ?_
    refine zr_invV (c_Shelf_wordsOf (i := 3) rfl rfl (hok.ok (front := [_, _, _, _, _, _, _, _, _, _, _, _, _, _, _, _, _, _, _, _, _, _, _, _, _]) rfl) (by omega)) m_Shelf_wordsOf k_WE_129 v_Shelf_wordsOf rfl rfl dWE_total_13 rfl (Nat.le_of_ble_eq_true rfl) (by decide) (Nat.le_of_ble_eq_true rfl) rfl (fun v w2 hp => ?_)
    obtain ⟨rfl, rfl⟩ := hp
    refine ⟨rfl, ?_⟩
    refine zr_goto (tgt := 20) dWE_total_16 (by decide) ?_
    exact zr_ireturn dWE_total_20 rfl rfl (⟨congrArg (fun x => some (Value.int x)) (by unfold zf_total; first | rw [if_neg h5] | rw [if_pos h5, nI_clamp (by omega)]), rfl⟩)
set_option maxHeartbeats 4000000 in
set_option maxRecDepth 100000 in
theorem c_WE_count {G : zw_G} {n wc len run m pb cn cw : Nat} {tw s1 s2 l1 l2 : Nat → Int64} {g1 g2 pl : Nat → Option Nat} {ids bl fd fe : Nat → Int32} {fr : Nat → Nat → Int32} {r : zw_W} {c k : Int32} (hn4 : n ≤ 4) (hwc : wc ≤ 20) {dc dn : Nat → Nat} {df : Nat → Nat → Int64} (hok : zs_okR 14 r g1 dc dn df) : zw_Met G Y_WE_count 2 0 0 [.ref 1, .int c, .int k] ((zk_WE n :: zk_Text wc len run :: zk_L 20 tw :: zk_Sh 3 :: zk_D 32 g1 :: zk_L 200 s1 :: zk_Sh 6 :: zk_D 32 g2 :: zk_L 200 s2 :: zk_Log m pb :: zk_I 24 ids :: zk_I 24 bl :: zk_D 24 pl :: zk_Ch cn cw :: zk_I 4 fd :: zk_A 4 zk_ga :: zk_I 20 (fr 0) :: zk_I 20 (fr 1) :: zk_I 20 (fr 2) :: zk_I 20 (fr 3) :: zk_I 4 fe :: zk_P 21 :: zk_L 12 l1 :: zk_P 23 :: zk_L 12 l2 :: r)) (zw_is (some (.int (zf_count n wc g1 dc dn df tw c k))) (zk_WE n :: zk_Text wc len run :: zk_L 20 tw :: zk_Sh 3 :: zk_D 32 g1 :: zk_L 200 s1 :: zk_Sh 6 :: zk_D 32 g2 :: zk_L 200 s2 :: zk_Log m pb :: zk_I 24 ids :: zk_I 24 bl :: zk_D 24 pl :: zk_Ch cn cw :: zk_I 4 fd :: zk_A 4 zk_ga :: zk_I 20 (fr 0) :: zk_I 20 (fr 1) :: zk_I 20 (fr 2) :: zk_I 20 (fr 3) :: zk_I 4 fe :: zk_P 21 :: zk_L 12 l1 :: zk_P 23 :: zk_L 12 l2 :: r)) := by
  show zw_Z G Y_WE_count _ _ _ 0 0 0 [some (.ref 1), some (.int c), some (.int k)] [] _
  refine zr_aload_n dWE_count_0 rfl rfl ?_
  refine zr_iload_n dWE_count_1 rfl ?_
  refine zr_invV (c_WE_isClass (i := 0) rfl) m_WE_isClass k_WE_81 v_WE_isClass rfl rfl dWE_count_2 rfl (Nat.le_of_ble_eq_true rfl) (by decide) (Nat.le_of_ble_eq_true rfl) rfl (fun v w2 hp => ?_)
  obtain ⟨rfl, rfl⟩ := hp
  refine ⟨rfl, ?_⟩
  refine zr_if_eqB (tgt := 19) dWE_count_5 (by decide) (fun h5 => ?_) (fun h5 => ?_)
  · refine zr_iconst (v := (-1)) dWE_count_19 (by decide) ?_
    exact zr_ireturn dWE_count_20 rfl rfl (⟨congrArg (fun x => some (Value.int x)) (by unfold zf_count; first | rw [if_neg (fun q => h5 q.1)] | rw [if_neg (fun q => h16 q.2)]), rfl⟩)
  · obtain ⟨j, hj, rfl⟩ := zf_rng (by omega) h5.1 h5.2
    refine zr_aload_n dWE_count_8 rfl rfl ?_
    refine zr_getf g_WE_10 dWE_count_9 rfl rfl ?_
    refine zr_iload_n dWE_count_12 rfl ?_
    refine zr_invV c_Text_hasWord m_Text_hasWord k_WE_64 v_Text_hasWord rfl rfl dWE_count_13 rfl (Nat.le_of_ble_eq_true rfl) (by decide) (Nat.le_of_ble_eq_true rfl) rfl (fun v w2 hp => ?_)
    obtain ⟨rfl, rfl⟩ := hp
    refine ⟨rfl, ?_⟩
    refine zr_if_neB (tgt := 21) dWE_count_16 (by decide) (fun h16 => ?_) (fun h16 => ?_)
    · obtain ⟨jk, hjk, rfl⟩ := zf_rng (by omega) h16.1 h16.2
      refine zr_aload_n dWE_count_21 rfl rfl ?_
      refine zr_getf g_WE_19 dWE_count_22 rfl rfl ?_
      refine zr_iload_n dWE_count_25 rfl ?_
      refine zr_aload_n dWE_count_26 rfl rfl ?_
      refine zr_getf g_WE_10 dWE_count_27 rfl rfl ?_
      refine zr_getf g_WE_68 dWE_count_30 rfl rfl ?_
      refine zr_iload_n dWE_count_33 rfl ?_
      refine zr_lald dWE_count_34 rfl (by omega) (by decide) ?_
      refine zr_invV (c_Shelf_timesOf (i := 3) rfl rfl (hok.ok (front := [_, _, _, _, _, _, _, _, _, _, _, _, _, _, _, _, _, _, _, _, _, _, _, _, _]) rfl) (by omega)) m_Shelf_timesOf k_WE_132 v_Shelf_timesOf rfl rfl dWE_count_35 rfl (Nat.le_of_ble_eq_true rfl) (by decide) (Nat.le_of_ble_eq_true rfl) rfl (fun v w2 hp => ?_)
      obtain ⟨rfl, rfl⟩ := hp
      refine ⟨rfl, ?_⟩
      exact zr_ireturn dWE_count_38 rfl rfl (⟨congrArg (fun x => some (Value.int x)) (by unfold zf_count; rw [if_pos ⟨h5, h16⟩, nI_clamp (by omega), nI_clamp (by omega)]; rfl), rfl⟩)
    · refine zr_iconst (v := (-1)) dWE_count_19 (by decide) ?_
      exact zr_ireturn dWE_count_20 rfl rfl (⟨congrArg (fun x => some (Value.int x)) (by unfold zf_count; first | rw [if_neg (fun q => h5 q.1)] | rw [if_neg (fun q => h16 q.2)]), rfl⟩)
set_option maxHeartbeats 4000000 in
set_option maxRecDepth 100000 in
theorem c_WE_vocabulary {G : zw_G} {n wc len run m pb cn cw : Nat} {tw s1 s2 l1 l2 : Nat → Int64} {g1 g2 pl : Nat → Option Nat} {ids bl fd fe : Nat → Int32} {fr : Nat → Nat → Int32} {r : zw_W} {dc dn : Nat → Nat} {df : Nat → Nat → Int64} (hok : zs_okR 14 r g1 dc dn df) (ht : zv_tot g1 dn 32 ≤ 200) : zw_Met G Y_WE_vocabulary 3 0 0 [.ref 1] (zk_WE n :: zk_Text wc len run :: zk_L 20 tw :: zk_Sh 3 :: zk_D 32 g1 :: zk_L 200 s1 :: zk_Sh 6 :: zk_D 32 g2 :: zk_L 200 s2 :: zk_Log m pb :: zk_I 24 ids :: zk_I 24 bl :: zk_D 24 pl :: zk_Ch cn cw :: zk_I 4 fd :: zk_A 4 zk_ga :: zk_I 20 (fr 0) :: zk_I 20 (fr 1) :: zk_I 20 (fr 2) :: zk_I 20 (fr 3) :: zk_I 4 fe :: zk_P 21 :: zk_L 12 l1 :: zk_P 23 :: zk_L 12 l2 :: r) (fun v w2 => v = some (.int (nI (zv_cnt (fun d => g1 d ≠ none) dn df 32 0))) ∧ ∃ s3, w2 = (zk_WE n :: zk_Text wc len run :: zk_L 20 tw :: zk_Sh 3 :: zk_D 32 g1 :: zk_L 200 s3 :: zk_Sh 6 :: zk_D 32 g2 :: zk_L 200 s2 :: zk_Log m pb :: zk_I 24 ids :: zk_I 24 bl :: zk_D 24 pl :: zk_Ch cn cw :: zk_I 4 fd :: zk_A 4 zk_ga :: zk_I 20 (fr 0) :: zk_I 20 (fr 1) :: zk_I 20 (fr 2) :: zk_I 20 (fr 3) :: zk_I 4 fe :: zk_P 21 :: zk_L 12 l1 :: zk_P 23 :: zk_L 12 l2 :: r)) := by
  show zw_Z G Y_WE_vocabulary _ _ _ 0 0 0 [some (.ref 1)] [] _
  refine zr_aload_n dWE_vocabulary_0 rfl rfl ?_
  refine zr_getf g_WE_19 dWE_vocabulary_1 rfl rfl ?_
  refine zr_invV (c_Shelf_differentWords (i := 3) (g := g1) rfl rfl rfl (hok.ok (front := [_, _, _, _, _, _, _, _, _, _, _, _, _, _, _, _, _, _, _, _, _, _, _, _, _]) rfl) (by decide) ht) m_Shelf_differentWords k_WE_136 v_Shelf_differentWords rfl rfl dWE_vocabulary_4 rfl (Nat.le_of_ble_eq_true rfl) (by decide) (Nat.le_of_ble_eq_true rfl) rfl (fun v w2 hp => ?_)
  obtain ⟨s3, rfl, rfl⟩ := hp
  refine ⟨by rfl, ?_⟩
  exact zr_ireturn dWE_vocabulary_7 rfl rfl (⟨rfl, s3, rfl⟩)
set_option maxHeartbeats 4000000 in
set_option maxRecDepth 100000 in
theorem c_WE_label {G : zw_G} {n wc len run m pb cn cw : Nat} {tw s1 s2 l1 l2 : Nat → Int64} {g1 g2 pl : Nat → Option Nat} {ids bl fd fe : Nat → Int32} {fr : Nat → Nat → Int32} {r : zw_W} {id : Int32} {dc dn : Nat → Nat} {df : Nat → Nat → Int64} (hok : zs_okR 14 r g1 dc dn df) : zw_Met G Y_WE_label 2 0 0 [.ref 1, .int id] ((zk_WE n :: zk_Text wc len run :: zk_L 20 tw :: zk_Sh 3 :: zk_D 32 g1 :: zk_L 200 s1 :: zk_Sh 6 :: zk_D 32 g2 :: zk_L 200 s2 :: zk_Log m pb :: zk_I 24 ids :: zk_I 24 bl :: zk_D 24 pl :: zk_Ch cn cw :: zk_I 4 fd :: zk_A 4 zk_ga :: zk_I 20 (fr 0) :: zk_I 20 (fr 1) :: zk_I 20 (fr 2) :: zk_I 20 (fr 3) :: zk_I 4 fe :: zk_P 21 :: zk_L 12 l1 :: zk_P 23 :: zk_L 12 l2 :: r)) (zw_is (some (.int (zf_label g1 dc id))) (zk_WE n :: zk_Text wc len run :: zk_L 20 tw :: zk_Sh 3 :: zk_D 32 g1 :: zk_L 200 s1 :: zk_Sh 6 :: zk_D 32 g2 :: zk_L 200 s2 :: zk_Log m pb :: zk_I 24 ids :: zk_I 24 bl :: zk_D 24 pl :: zk_Ch cn cw :: zk_I 4 fd :: zk_A 4 zk_ga :: zk_I 20 (fr 0) :: zk_I 20 (fr 1) :: zk_I 20 (fr 2) :: zk_I 20 (fr 3) :: zk_I 4 fe :: zk_P 21 :: zk_L 12 l1 :: zk_P 23 :: zk_L 12 l2 :: r)) := by
  show zw_Z G Y_WE_label _ _ _ 0 0 0 [some (.ref 1), some (.int id), none] [] _
  refine zr_aload_n dWE_label_0 rfl rfl ?_
  refine zr_getf g_WE_19 dWE_label_1 rfl rfl ?_
  refine zr_iload_n dWE_label_4 rfl ?_
  refine zr_invV (c_Shelf_find (i := 3) rfl rfl) m_Shelf_find k_WE_84 v_Shelf_find rfl rfl dWE_label_5 rfl (Nat.le_of_ble_eq_true rfl) (by decide) (Nat.le_of_ble_eq_true rfl) rfl (fun v w2 hp => ?_)
  obtain ⟨rfl, rfl⟩ := hp
  refine ⟨rfl, ?_⟩
  rcases ho5 : zf_find g1 id with _ | r5
  · refine zr_astore_n dWE_label_8 (by decide) rfl ?_
    refine zr_aload_n dWE_label_9 rfl rfl ?_
    refine zr_ifnonnullN dWE_label_10 ?_
    refine zr_iconst (v := (-1)) dWE_label_13 (by decide) ?_
    refine zr_goto (tgt := 21) dWE_label_14 (by decide) ?_
    exact zr_ireturn dWE_label_21 rfl rfl (⟨congrArg (fun x => some (Value.int x)) (by unfold zf_label; first | (rw [if_neg (fun q => by obtain ⟨q1, q2⟩ := q; obtain ⟨j, hj, rfl⟩ := zf_rng (by decide) q1.1 q1.2; rw [zf_find_in hj] at ho5; rw [nI_clamp (by omega)] at q2; exact q2 ho5)]; done) | (rw [if_pos ⟨hin, by rw [nI_clamp (by omega), ho5]; exact fun z => by cases z⟩, nI_clamp (by omega)]; done)), rfl⟩)
  · have hin : ¬ id < 0 ∧ id < nI 32 := by
      by_cases q : ¬ id < 0 ∧ id < nI 32
      · exact q
      · rw [zf_find_out q] at ho5; cases ho5
    obtain ⟨j, hj, rfl⟩ := zf_rng (by decide) hin.1 hin.2
    rw [zf_find_in hj] at ho5
    obtain ⟨⟨q, rfl, hq1, hq2⟩, hq3⟩ := hok j hj r5 ho5
    refine zr_astore_n dWE_label_8 (by decide) rfl ?_
    refine zr_aload_n dWE_label_9 rfl rfl ?_
    refine zr_ifnonnull (tgt := 17) dWE_label_10 (by decide) ?_
    refine zr_aload_n dWE_label_17 rfl rfl ?_
    refine zr_getf g_WE_111 dWE_label_18 hq1 rfl ?_
    exact zr_ireturn dWE_label_21 rfl rfl (⟨congrArg (fun x => some (Value.int x)) (by unfold zf_label; first | (rw [if_neg (fun q => by obtain ⟨q1, q2⟩ := q; obtain ⟨j, hj, rfl⟩ := zf_rng (by decide) q1.1 q1.2; rw [zf_find_in hj] at ho5; rw [nI_clamp (by omega)] at q2; exact q2 ho5)]; done) | (rw [if_pos ⟨hin, by rw [nI_clamp (by omega), ho5]; exact fun z => by cases z⟩, nI_clamp (by omega)]; done)), rfl⟩)
/-- the sign of class a against class b, over the documents in force and the words of the text -/
noncomputable def zf_sg (g : Nat → Option Nat) (dc dn : Nat → Nat) (df : Nat → Nat → Int64) (tw : Nat → Int64) (wc : Nat) : Nat → Nat → Int32 := zc_sgn (zc_D g dc) (zc_E g dc dn df) (fun c k => zc_T g dc dn df c (tw k) + 1) wc
theorem zs_sum_size {g : Nat → Option Nat} {dc v : Nat → Nat} {c b n : Nat} (h : ∀ i, i < n → g i ≠ none → v i ≤ b) : zs_sum g dc c v n ≤ b * zs_size g n := by
  induction n with
  | zero => exact Nat.zero_le _
  | succ n ih =>
    have h1 := ih (fun i hi => h i (by omega))
    cases hg : g n with
    | none => rw [zs_sum_n hg, zs_size_n hg]; exact h1
    | some x =>
      have h2 := h n (by omega) (by rw [hg]; exact fun z => by cases z)
      rw [zs_size_s hg, Nat.mul_succ]
      by_cases hc : dc n = c
      · rw [zs_sum_s hg hc]; omega
      · rw [zs_sum_o hg hc]; omega
theorem zv_tot_size {g : Nat → Option Nat} {dn : Nat → Nat} {n : Nat} (h : ∀ i, i < n → g i ≠ none → dn i ≤ 20) : zv_tot g dn n ≤ 20 * zs_size g n := by
  induction n with
  | zero => exact Nat.zero_le _
  | succ n ih =>
    have h1 := ih (fun i hi => h i (by omega))
    unfold zv_tot at h1 ⊢
    rw [wn_sum]
    cases hg : g n with
    | none => rw [zs_size_n hg]; simpa using h1
    | some x =>
      have h2 := h n (by omega) (by rw [hg]; exact fun z => by cases z)
      rw [zs_size_s hg, Nat.mul_succ]
      simp
      omega
theorem zf_bounds {g : Nat → Option Nat} {dc dn : Nat → Nat} {df : Nat → Nat → Int64} (hs : zs_size g 32 ≤ 10) (h : ∀ i, i < 32 → g i ≠ none → dn i ≤ 20) : zv_tot g dn 32 ≤ 200 ∧ ∀ c, zc_D g dc c ≤ 10 ∧ zc_E g dc dn df c ≤ 401 ∧ ∀ x, zc_T g dc dn df c x + 1 ≤ 201 := by
  have h0 := zv_tot_size h
  refine ⟨by omega, fun c => ⟨?_, ?_, fun x => ?_⟩⟩
  · have := zs_sum_size (g := g) (dc := dc) (v := fun _ => 1) (c := c) (b := 1) (n := 32) (fun _ _ _ => Nat.le_refl 1)
    unfold zc_D
    omega
  · have h1 := zs_sum_size (g := g) (dc := dc) (v := dn) (c := c) (b := 20) (n := 32) h
    have h2 := zv_cnt_le (g := g) (dn := dn) (df := df) (id := 32) (k := 0)
    unfold zc_E
    omega
  · have h1 := zs_sum_size (g := g) (dc := dc) (v := fun id => wn_sum (fun j => if df id j = x then 1 else 0) (dn id)) (c := c) (b := 20) (n := 32) (fun i hi hg => by
      have h3 := h i hi hg
      have h4 := wn_sum_le (h := fun j => if df i j = x then 1 else 0) (b := 1) (n := dn i) (fun j _ => by split <;> omega)
      omega)
    unfold zc_T
    omega
set_option maxHeartbeats 4000000 in
set_option maxRecDepth 100000 in
theorem c_WE_order {G : zw_G} {n wc len run m pb cn cw : Nat} {tw s1 s2 l1 l2 : Nat → Int64} {g1 g2 pl : Nat → Option Nat} {ids bl fd fe : Nat → Int32} {fr : Nat → Nat → Int32} {r : zw_W} (hn4 : n ≤ 4) (hwc : wc ≤ 20) {dc dn : Nat → Nat} {df : Nat → Nat → Int64} (hok : zs_okR 14 r g1 dc dn df) (hs10 : zs_size g1 32 ≤ 10) {x : Int32} : zw_Met G Y_WE_order 6 0 0 [.ref 1, .int x] (zk_WE n :: zk_Text wc len run :: zk_L 20 tw :: zk_Sh 3 :: zk_D 32 g1 :: zk_L 200 s1 :: zk_Sh 6 :: zk_D 32 g2 :: zk_L 200 s2 :: zk_Log m pb :: zk_I 24 ids :: zk_I 24 bl :: zk_D 24 pl :: zk_Ch cn cw :: zk_I 4 fd :: zk_A 4 zk_ga :: zk_I 20 (fr 0) :: zk_I 20 (fr 1) :: zk_I 20 (fr 2) :: zk_I 20 (fr 3) :: zk_I 4 fe :: zk_P 21 :: zk_L 12 l1 :: zk_P 23 :: zk_L 12 l2 :: r) (fun v w2 => (∃ y, v = some (.int y) ∧ ((¬ x < 0 ∧ x < nI n) → zc_at (zf_sg g1 dc dn df tw wc) n x y) ∧ (¬ (¬ x < 0 ∧ x < nI n) → y = -1)) ∧ ∃ (s3 : Nat → Int64) (cn3 cw3 : Nat) (fd3 fe3 : Nat → Int32) (fr3 : Nat → Nat → Int32) (m1 m2 : Nat → Int64), w2 = (zk_WE n :: zk_Text wc len run :: zk_L 20 tw :: zk_Sh 3 :: zk_D 32 g1 :: zk_L 200 s3 :: zk_Sh 6 :: zk_D 32 g2 :: zk_L 200 s2 :: zk_Log m pb :: zk_I 24 ids :: zk_I 24 bl :: zk_D 24 pl :: zk_Ch cn3 cw3 :: zk_I 4 fd3 :: zk_A 4 zk_ga :: zk_I 20 (fr3 0) :: zk_I 20 (fr3 1) :: zk_I 20 (fr3 2) :: zk_I 20 (fr3 3) :: zk_I 4 fe3 :: zk_P 21 :: zk_L 12 m1 :: zk_P 23 :: zk_L 12 m2 :: r)) := by
  have hdn : ∀ i, i < 32 → g1 i ≠ none → dn i ≤ 20 := fun i hi hg => by
    cases hx : g1 i with
    | none => exact absurd hx hg
    | some x => exact (hok i hi x hx).2.1
  obtain ⟨ht, hbd⟩ := zf_bounds (dc := dc) (df := df) hs10 hdn
  show zw_Z G Y_WE_order _ _ _ 0 0 0 [some (.ref 1), some (.int x)] [] _
  refine zr_aload_n dWE_order_0 rfl rfl ?_
  refine zr_iload_n dWE_order_1 rfl ?_
  refine zr_invV (c_WE_isClass (i := 0) rfl) m_WE_isClass k_WE_81 v_WE_isClass rfl rfl dWE_order_2 rfl (Nat.le_of_ble_eq_true rfl) (by decide) (Nat.le_of_ble_eq_true rfl) rfl (fun v w2 hp => ?_)
  obtain ⟨rfl, rfl⟩ := hp
  refine ⟨rfl, ?_⟩
  refine zr_if_neB (tgt := 10) dWE_order_5 (by decide) (fun h5 => ?_) (fun h5 => ?_)
  · refine zr_aload_n dWE_order_10 rfl rfl ?_
    refine zr_getf g_WE_36 dWE_order_11 rfl rfl ?_
    refine zr_aload_n dWE_order_14 rfl rfl ?_
    refine zr_getf g_WE_19 dWE_order_15 rfl rfl ?_
    refine zr_aload_n dWE_order_18 rfl rfl ?_
    refine zr_getf g_WE_10 dWE_order_19 rfl rfl ?_
    refine zr_aload_n dWE_order_22 rfl rfl ?_
    refine zr_getf g_WE_49 dWE_order_23 rfl rfl ?_
    refine zr_invV (c_Chances_weigh (n := n) hn4 hwc (zs_okR.cons (zs_okR.cons (zs_okR.cons (zs_okR.cons hok)))) ht) m_Chances_weigh k_WE_142 v_Chances_weigh rfl rfl dWE_order_26 rfl (Nat.le_of_ble_eq_true rfl) (by decide) (Nat.le_of_ble_eq_true rfl) rfl (fun v w2 hp => ?_)
    obtain ⟨rfl, s3, fd3, fr3, fe3, rfl, hp1, hp2, hp3⟩ := hp
    refine ⟨by rfl, ?_⟩
    refine zr_aload_n dWE_order_29 rfl rfl ?_
    refine zr_getf g_WE_36 dWE_order_30 rfl rfl ?_
    refine zr_iload_n dWE_order_33 rfl ?_
    refine zr_invV (c_Chances_classAt (dv := zc_D g1 dc) (de := zc_E g1 dc dn df) (nu := fun c k => zc_T g1 dc dn df c (tw k) + 1) hn4 hwc hp1 hp2 hp3 (fun c _ => (hbd c).1) (fun c _ => (hbd c).2.1) (fun c _ k _ => (hbd c).2.2 (tw k))) m_Chances_classAt k_WE_146 v_Chances_classAt rfl rfl dWE_order_34 rfl (Nat.le_of_ble_eq_true rfl) (by decide) (Nat.le_of_ble_eq_true rfl) rfl (fun v w2 hp => ?_)
    obtain ⟨⟨y, rfl, hy⟩, m1, m2, rfl⟩ := hp
    refine ⟨by rfl, ?_⟩
    exact zr_ireturn dWE_order_37 rfl rfl (⟨⟨y, rfl, fun _ => hy, fun q => absurd h5 q⟩, s3, n, wc, fd3, fe3, fr3, m1, m2, rfl⟩)
  · refine zr_iconst (v := (-1)) dWE_order_8 (by decide) ?_
    exact zr_ireturn dWE_order_9 rfl rfl (⟨⟨_, rfl, fun q => absurd q h5, fun _ => rfl⟩, ⟨s1, cn, cw, fd, fe, fr, l1, l2, rfl⟩⟩)
def zf_cmp (n : Nat) (sg : Nat → Nat → Int32) (a b : Int32) : Int32 := if (¬ a < 0 ∧ a < nI n) ∧ (¬ b < 0 ∧ b < nI n) then sg a.toNatClampNeg b.toNatClampNeg else -2
set_option maxHeartbeats 4000000 in
set_option maxRecDepth 100000 in
theorem c_WE_compare {G : zw_G} {n wc len run m pb cn cw : Nat} {tw s1 s2 l1 l2 : Nat → Int64} {g1 g2 pl : Nat → Option Nat} {ids bl fd fe : Nat → Int32} {fr : Nat → Nat → Int32} {r : zw_W} (hn4 : n ≤ 4) (hwc : wc ≤ 20) {dc dn : Nat → Nat} {df : Nat → Nat → Int64} (hok : zs_okR 14 r g1 dc dn df) (hs10 : zs_size g1 32 ≤ 10) {a b : Int32} : zw_Met G Y_WE_compare 4 0 0 [.ref 1, .int a, .int b] (zk_WE n :: zk_Text wc len run :: zk_L 20 tw :: zk_Sh 3 :: zk_D 32 g1 :: zk_L 200 s1 :: zk_Sh 6 :: zk_D 32 g2 :: zk_L 200 s2 :: zk_Log m pb :: zk_I 24 ids :: zk_I 24 bl :: zk_D 24 pl :: zk_Ch cn cw :: zk_I 4 fd :: zk_A 4 zk_ga :: zk_I 20 (fr 0) :: zk_I 20 (fr 1) :: zk_I 20 (fr 2) :: zk_I 20 (fr 3) :: zk_I 4 fe :: zk_P 21 :: zk_L 12 l1 :: zk_P 23 :: zk_L 12 l2 :: r) (fun v w2 => v = some (.int (zf_cmp n (zf_sg g1 dc dn df tw wc) a b)) ∧ ∃ (s3 : Nat → Int64) (cn3 cw3 : Nat) (fd3 fe3 : Nat → Int32) (fr3 : Nat → Nat → Int32) (m1 m2 : Nat → Int64), w2 = (zk_WE n :: zk_Text wc len run :: zk_L 20 tw :: zk_Sh 3 :: zk_D 32 g1 :: zk_L 200 s3 :: zk_Sh 6 :: zk_D 32 g2 :: zk_L 200 s2 :: zk_Log m pb :: zk_I 24 ids :: zk_I 24 bl :: zk_D 24 pl :: zk_Ch cn3 cw3 :: zk_I 4 fd3 :: zk_A 4 zk_ga :: zk_I 20 (fr3 0) :: zk_I 20 (fr3 1) :: zk_I 20 (fr3 2) :: zk_I 20 (fr3 3) :: zk_I 4 fe3 :: zk_P 21 :: zk_L 12 m1 :: zk_P 23 :: zk_L 12 m2 :: r)) := by
  have hdn : ∀ i, i < 32 → g1 i ≠ none → dn i ≤ 20 := fun i hi hg => by
    cases hx : g1 i with
    | none => exact absurd hx hg
    | some x => exact (hok i hi x hx).2.1
  obtain ⟨ht, hbd⟩ := zf_bounds (dc := dc) (df := df) hs10 hdn
  show zw_Z G Y_WE_compare _ _ _ 0 0 0 [some (.ref 1), some (.int a), some (.int b)] [] _
  refine zr_aload_n dWE_compare_0 rfl rfl ?_
  refine zr_iload_n dWE_compare_1 rfl ?_
  refine zr_invV (c_WE_isClass (i := 0) rfl) m_WE_isClass k_WE_81 v_WE_isClass rfl rfl dWE_compare_2 rfl (Nat.le_of_ble_eq_true rfl) (by decide) (Nat.le_of_ble_eq_true rfl) rfl (fun v w2 hp => ?_)
  obtain ⟨rfl, rfl⟩ := hp
  refine ⟨rfl, ?_⟩
  refine zr_if_eqB (tgt := 16) dWE_compare_5 (by decide) (fun h5 => ?_) (fun h5 => ?_)
  · refine zr_bipush (v := (-2)) dWE_compare_16 (by decide) ?_
    exact zr_ireturn dWE_compare_18 rfl rfl (⟨congrArg (fun x => some (Value.int x)) (by unfold zf_cmp; first | rw [if_neg (fun q => h5 q.1)] | rw [if_neg (fun q => h13 q.2)]), ⟨s1, cn, cw, fd, fe, fr, l1, l2, rfl⟩⟩)
  · obtain ⟨ja, hja, rfl⟩ := zf_rng (by omega) h5.1 h5.2
    refine zr_aload_n dWE_compare_8 rfl rfl ?_
    refine zr_iload_n dWE_compare_9 rfl ?_
    refine zr_invV (c_WE_isClass (i := 0) rfl) m_WE_isClass k_WE_81 v_WE_isClass rfl rfl dWE_compare_10 rfl (Nat.le_of_ble_eq_true rfl) (by decide) (Nat.le_of_ble_eq_true rfl) rfl (fun v w2 hp => ?_)
    obtain ⟨rfl, rfl⟩ := hp
    refine ⟨rfl, ?_⟩
    refine zr_if_neB (tgt := 19) dWE_compare_13 (by decide) (fun h13 => ?_) (fun h13 => ?_)
    · obtain ⟨jb, hjb, rfl⟩ := zf_rng (by omega) h13.1 h13.2
      refine zr_aload_n dWE_compare_19 rfl rfl ?_
      refine zr_getf g_WE_36 dWE_compare_20 rfl rfl ?_
      refine zr_aload_n dWE_compare_23 rfl rfl ?_
      refine zr_getf g_WE_19 dWE_compare_24 rfl rfl ?_
      refine zr_aload_n dWE_compare_27 rfl rfl ?_
      refine zr_getf g_WE_10 dWE_compare_28 rfl rfl ?_
      refine zr_aload_n dWE_compare_31 rfl rfl ?_
      refine zr_getf g_WE_49 dWE_compare_32 rfl rfl ?_
      refine zr_invV (c_Chances_weigh (n := n) hn4 hwc (zs_okR.cons (zs_okR.cons (zs_okR.cons (zs_okR.cons hok)))) ht) m_Chances_weigh k_WE_142 v_Chances_weigh rfl rfl dWE_compare_35 rfl (Nat.le_of_ble_eq_true rfl) (by decide) (Nat.le_of_ble_eq_true rfl) rfl (fun v w2 hp => ?_)
      obtain ⟨rfl, s3, fd3, fr3, fe3, rfl, hp1, hp2, hp3⟩ := hp
      refine ⟨by rfl, ?_⟩
      refine zr_aload_n dWE_compare_38 rfl rfl ?_
      refine zr_getf g_WE_36 dWE_compare_39 rfl rfl ?_
      refine zr_iload_n dWE_compare_42 rfl ?_
      refine zr_iload_n dWE_compare_43 rfl ?_
      refine zr_invV (c_Chances_signOf (dv := zc_D g1 dc) (de := zc_E g1 dc dn df) (nu := fun c k => zc_T g1 dc dn df c (tw k) + 1) hn4 hwc hp1 hp2 hp3 (fun c _ => (hbd c).1) (fun c _ => (hbd c).2.1) (fun c _ k _ => (hbd c).2.2 (tw k)) hja hjb) m_Chances_signOf k_WE_149 v_Chances_signOf rfl rfl dWE_compare_44 rfl (Nat.le_of_ble_eq_true rfl) (by decide) (Nat.le_of_ble_eq_true rfl) rfl (fun v w2 hp => ?_)
      obtain ⟨rfl, m1, m2, rfl⟩ := hp
      refine ⟨by rfl, ?_⟩
      exact zr_ireturn dWE_compare_47 rfl rfl (⟨congrArg (fun x => some (Value.int x)) (by unfold zf_cmp; rw [if_pos ⟨h5, h13⟩, nI_clamp (by omega), nI_clamp (by omega)]; rfl), s3, n, wc, fd3, fe3, fr3, m1, m2, rfl⟩)
    · refine zr_bipush (v := (-2)) dWE_compare_16 (by decide) ?_
      exact zr_ireturn dWE_compare_18 rfl rfl (⟨congrArg (fun x => some (Value.int x)) (by unfold zf_cmp; first | rw [if_neg (fun q => h5 q.1)] | rw [if_neg (fun q => h13 q.2)]), ⟨s1, cn, cw, fd, fe, fr, l1, l2, rfl⟩⟩)
set_option maxHeartbeats 4000000 in
set_option maxRecDepth 100000 in
theorem c_WE_classify {G : zw_G} {n wc len run m pb cn cw : Nat} {tw s1 s2 l1 l2 : Nat → Int64} {g1 g2 pl : Nat → Option Nat} {ids bl fd fe : Nat → Int32} {fr : Nat → Nat → Int32} {r : zw_W} (hn4 : n ≤ 4) (hwc : wc ≤ 20) {dc dn : Nat → Nat} {df : Nat → Nat → Int64} (hok : zs_okR 14 r g1 dc dn df) (hs10 : zs_size g1 32 ≤ 10) (hn2 : 2 ≤ n) : zw_Met G Y_WE_classify 7 0 0 [.ref 1] (zk_WE n :: zk_Text wc len run :: zk_L 20 tw :: zk_Sh 3 :: zk_D 32 g1 :: zk_L 200 s1 :: zk_Sh 6 :: zk_D 32 g2 :: zk_L 200 s2 :: zk_Log m pb :: zk_I 24 ids :: zk_I 24 bl :: zk_D 24 pl :: zk_Ch cn cw :: zk_I 4 fd :: zk_A 4 zk_ga :: zk_I 20 (fr 0) :: zk_I 20 (fr 1) :: zk_I 20 (fr 2) :: zk_I 20 (fr 3) :: zk_I 4 fe :: zk_P 21 :: zk_L 12 l1 :: zk_P 23 :: zk_L 12 l2 :: r) (fun v w2 => (∃ y, v = some (.int y) ∧ (zs_size g1 32 = 0 → y = -1) ∧ (zs_size g1 32 ≠ 0 → zc_at (zf_sg g1 dc dn df tw wc) n (nI 0) y)) ∧ ∃ (s3 : Nat → Int64) (cn3 cw3 : Nat) (fd3 fe3 : Nat → Int32) (fr3 : Nat → Nat → Int32) (m1 m2 : Nat → Int64), w2 = (zk_WE n :: zk_Text wc len run :: zk_L 20 tw :: zk_Sh 3 :: zk_D 32 g1 :: zk_L 200 s3 :: zk_Sh 6 :: zk_D 32 g2 :: zk_L 200 s2 :: zk_Log m pb :: zk_I 24 ids :: zk_I 24 bl :: zk_D 24 pl :: zk_Ch cn3 cw3 :: zk_I 4 fd3 :: zk_A 4 zk_ga :: zk_I 20 (fr3 0) :: zk_I 20 (fr3 1) :: zk_I 20 (fr3 2) :: zk_I 20 (fr3 3) :: zk_I 4 fe3 :: zk_P 21 :: zk_L 12 m1 :: zk_P 23 :: zk_L 12 m2 :: r)) := by
  show zw_Z G Y_WE_classify _ _ _ 0 0 0 [some (.ref 1)] [] _
  refine zr_aload_n dWE_classify_0 rfl rfl ?_
  refine zr_getf g_WE_19 dWE_classify_1 rfl rfl ?_
  refine zr_invV (c_Shelf_size (i := 3) rfl rfl) m_Shelf_size k_WE_88 v_Shelf_size rfl rfl dWE_classify_4 rfl (Nat.le_of_ble_eq_true rfl) (by decide) (Nat.le_of_ble_eq_true rfl) rfl (fun v w2 hp => ?_)
  obtain ⟨rfl, rfl⟩ := hp
  refine ⟨rfl, ?_⟩
  refine zr_if_neN (tgt := 14) (by omega) dWE_classify_7 (by decide) (fun h7 => ?_) (fun h7 => ?_)
  · refine zr_aload_n dWE_classify_14 rfl rfl ?_
    refine zr_iconst (v := nI 0) dWE_classify_15 (by decide) ?_
    refine zr_invV (c_WE_order hn4 hwc hok hs10) m_WE_order k_WE_139 v_WE_order rfl rfl dWE_classify_16 rfl (Nat.le_of_ble_eq_true rfl) (by decide) (Nat.le_of_ble_eq_true rfl) rfl (fun v w2 hp => ?_)
    obtain ⟨⟨y, rfl, hy1, hy2⟩, s3, cn3, cw3, fd3, fe3, fr3, m1, m2, rfl⟩ := hp
    have hy := hy1 ⟨by decide, nI_lt (by omega) (by omega)⟩
    refine ⟨by rfl, ?_⟩
    exact zr_ireturn dWE_classify_19 rfl rfl (by first | exact ⟨⟨_, rfl, fun _ => rfl, fun q => absurd h7 q⟩, ⟨s1, cn, cw, fd, fe, fr, l1, l2, rfl⟩⟩ | exact ⟨⟨y, rfl, fun q => absurd q h7, fun _ => hy⟩, s3, cn3, cw3, fd3, fe3, fr3, m1, m2, rfl⟩)
  · refine zr_iconst (v := (-1)) dWE_classify_10 (by decide) ?_
    refine zr_goto (tgt := 19) dWE_classify_11 (by decide) ?_
    exact zr_ireturn dWE_classify_19 rfl rfl (by first | exact ⟨⟨_, rfl, fun _ => rfl, fun q => absurd h7 q⟩, ⟨s1, cn, cw, fd, fe, fr, l1, l2, rfl⟩⟩ | exact ⟨⟨y, rfl, fun q => absurd q h7, fun _ => hy⟩, s3, cn3, cw3, fd3, fe3, fr3, m1, m2, rfl⟩)
end
section
/-- what refuses train: -1 the id or the class, -2 a document there, -4 ten documents, -5 no room; 0 nothing -/
def zf_train (n : Nat) (g : Nat → Option Nat) (pb wc : Nat) (id c : Int32) : Int32 :=
  if ¬ ((¬ id < 0 ∧ id < nI 32) ∧ (¬ c < 0 ∧ c < nI n)) then -1
  else if g id.toNatClampNeg ≠ none then -2
  else if 10 ≤ zs_size g 32 then -4
  else if 24 < pb + (1 + (wc + 4 - 1) / 4) then -5 else 0
theorem zf_find_none {g : Nat → Option Nat} {j : Nat} (h : j < 32) (hz : zf_find g (nI j) = none) : g j = none := by rw [zf_find_in h] at hz; exact hz
theorem zf_find_some {g : Nat → Option Nat} {j x : Nat} (h : j < 32) (hz : zf_find g (nI j) = some x) : g j = some x := by rw [zf_find_in h] at hz; exact hz
theorem zf_tr1 {n : Nat} {g : Nat → Option Nat} {pb wc : Nat} {id c : Int32} (h : ¬ ((¬ id < 0 ∧ id < nI 32) ∧ (¬ c < 0 ∧ c < nI n))) : zf_train n g pb wc id c = -1 := if_pos h
theorem zf_tr2 {n : Nat} {g : Nat → Option Nat} {pb wc j : Nat} {c : Int32} (hj : j < 32) (h : (¬ nI j < 0 ∧ nI j < nI 32) ∧ (¬ c < 0 ∧ c < nI n)) : zf_train n g pb wc (nI j) c = if g j ≠ none then -2 else if 10 ≤ zs_size g 32 then -4 else if 24 < pb + (1 + (wc + 4 - 1) / 4) then -5 else 0 := by
  unfold zf_train
  rw [if_neg (fun q => q h), nI_clamp (by omega)]
set_option maxHeartbeats 4000000 in
set_option maxRecDepth 100000 in
theorem c_WE_train_no {G : zw_G} {n wc len run m pb cn cw : Nat} {tw s1 s2 l1 l2 : Nat → Int64} {g1 g2 pl : Nat → Option Nat} {ids bl fd fe : Nat → Int32} {fr : Nat → Nat → Int32} {r : zw_W} {id c : Int32} (hwc : wc ≤ 20) (hpb : pb ≤ 24) (hno : zf_train n g1 pb wc id c ≠ 0) : zw_Met G Y_WE_train 3 0 0 [.ref 1, .int id, .int c] ((zk_WE n :: zk_Text wc len run :: zk_L 20 tw :: zk_Sh 3 :: zk_D 32 g1 :: zk_L 200 s1 :: zk_Sh 6 :: zk_D 32 g2 :: zk_L 200 s2 :: zk_Log m pb :: zk_I 24 ids :: zk_I 24 bl :: zk_D 24 pl :: zk_Ch cn cw :: zk_I 4 fd :: zk_A 4 zk_ga :: zk_I 20 (fr 0) :: zk_I 20 (fr 1) :: zk_I 20 (fr 2) :: zk_I 20 (fr 3) :: zk_I 4 fe :: zk_P 21 :: zk_L 12 l1 :: zk_P 23 :: zk_L 12 l2 :: r)) (zw_is (some (.int (zf_train n g1 pb wc id c))) (zk_WE n :: zk_Text wc len run :: zk_L 20 tw :: zk_Sh 3 :: zk_D 32 g1 :: zk_L 200 s1 :: zk_Sh 6 :: zk_D 32 g2 :: zk_L 200 s2 :: zk_Log m pb :: zk_I 24 ids :: zk_I 24 bl :: zk_D 24 pl :: zk_Ch cn cw :: zk_I 4 fd :: zk_A 4 zk_ga :: zk_I 20 (fr 0) :: zk_I 20 (fr 1) :: zk_I 20 (fr 2) :: zk_I 20 (fr 3) :: zk_I 4 fe :: zk_P 21 :: zk_L 12 l1 :: zk_P 23 :: zk_L 12 l2 :: r)) := by
  show zw_Z G Y_WE_train _ _ _ 0 0 0 [some (.ref 1), some (.int id), some (.int c), none] [] _
  refine zr_iload_n dWE_train_0 rfl ?_
  refine zr_invS c_WE_isId m_WE_isId k_WE_78 (s_WE_isId) dWE_train_1 rfl (Nat.le_of_ble_eq_true rfl) (by decide) (Nat.le_of_ble_eq_true rfl) rfl (fun v w2 hp => ?_)
  obtain ⟨rfl, rfl⟩ := hp
  refine ⟨rfl, ?_⟩
  refine zr_if_eqB (tgt := 15) dWE_train_4 (by decide) (fun h4 => ?_) (fun h4 => ?_)
  · refine zr_iconst (v := (-1)) dWE_train_15 (by decide) ?_
    exact zr_ireturn dWE_train_16 rfl rfl (⟨congrArg (fun x => some (Value.int x)) (by first | exact (zf_tr1 (fun q => h4 q.1)).symm | exact (zf_tr1 (fun q => h12 q.2)).symm), rfl⟩)
  · refine zr_aload_n dWE_train_7 rfl rfl ?_
    refine zr_iload_n dWE_train_8 rfl ?_
    refine zr_invV (c_WE_isClass (i := 0) rfl) m_WE_isClass k_WE_81 v_WE_isClass rfl rfl dWE_train_9 rfl (Nat.le_of_ble_eq_true rfl) (by decide) (Nat.le_of_ble_eq_true rfl) rfl (fun v w2 hp => ?_)
    obtain ⟨rfl, rfl⟩ := hp
    refine ⟨rfl, ?_⟩
    refine zr_if_neB (tgt := 17) dWE_train_12 (by decide) (fun h12 => ?_) (fun h12 => ?_)
    · obtain ⟨j, hj, rfl⟩ := zf_rng (by decide) h4.1 h4.2
      refine zr_aload_n dWE_train_17 rfl rfl ?_
      refine zr_getf g_WE_19 dWE_train_18 rfl rfl ?_
      refine zr_iload_n dWE_train_21 rfl ?_
      refine zr_invV (c_Shelf_find (i := 3) rfl rfl) m_Shelf_find k_WE_84 v_Shelf_find rfl rfl dWE_train_22 rfl (Nat.le_of_ble_eq_true rfl) (by decide) (Nat.le_of_ble_eq_true rfl) rfl (fun v w2 hp => ?_)
      obtain ⟨rfl, rfl⟩ := hp
      refine ⟨rfl, ?_⟩
      rcases ho22 : zf_find g1 (nI j) with _ | r22
      · refine zr_ifnullN (tgt := 31) dWE_train_25 (by decide) ?_
        refine zr_aload_n dWE_train_31 rfl rfl ?_
        refine zr_getf g_WE_19 dWE_train_32 rfl rfl ?_
        refine zr_invV (c_Shelf_size (i := 3) rfl rfl) m_Shelf_size k_WE_88 v_Shelf_size rfl rfl dWE_train_35 rfl (Nat.le_of_ble_eq_true rfl) (by decide) (Nat.le_of_ble_eq_true rfl) rfl (fun v w2 hp => ?_)
        obtain ⟨rfl, rfl⟩ := hp
        refine ⟨rfl, ?_⟩
        refine zr_bipush (v := nI 10) dWE_train_38 (by decide) ?_
        refine zr_icmp_ltN (tgt := 46) (by have := @zs_size_le g1 32; omega) (by omega) dWE_train_40 (by decide) (fun h40 => ?_) (fun h40 => ?_)
        · refine zr_aload_n dWE_train_46 rfl rfl ?_
          refine zr_getf g_WE_10 dWE_train_47 rfl rfl ?_
          refine zr_getf g_WE_61 dWE_train_50 rfl rfl ?_
          refine zr_invS (c_WE_blocks (by omega)) m_WE_blocksToTrain k_WE_91 (s_WE_blocksToTrain) dWE_train_53 rfl (Nat.le_of_ble_eq_true rfl) (by decide) (Nat.le_of_ble_eq_true rfl) rfl (fun v w2 hp => ?_)
          obtain ⟨rfl, rfl⟩ := hp
          refine ⟨rfl, ?_⟩
          refine zr_istore_n dWE_train_56 (by decide) ?_
          refine zr_aload_n dWE_train_57 rfl rfl ?_
          refine zr_getf g_WE_29 dWE_train_58 rfl rfl ?_
          refine zr_iload_n dWE_train_61 rfl ?_
          refine zr_invV (c_Log_hasRoomFor (by omega) (by omega)) m_Log_hasRoomFor k_WE_95 v_Log_hasRoomFor rfl rfl dWE_train_62 rfl (Nat.le_of_ble_eq_true rfl) (by decide) (Nat.le_of_ble_eq_true rfl) rfl (fun v w2 hp => ?_)
          obtain ⟨rfl, rfl⟩ := hp
          refine ⟨rfl, ?_⟩
          refine zr_if_neB (tgt := 71) dWE_train_65 (by decide) (fun h65 => ?_) (fun h65 => ?_)
          · exact absurd (by rw [zf_tr2 hj ⟨h4, h12⟩, if_neg (by rw [zf_find_none hj ho22]; exact fun q => q rfl), if_neg (by omega), if_neg (by omega)]) hno
          · refine zr_bipush (v := (-5)) dWE_train_68 (by decide) ?_
            exact zr_ireturn dWE_train_70 rfl rfl (⟨congrArg (fun x => some (Value.int x)) (by rw [zf_tr2 hj ⟨h4, h12⟩, if_neg (by rw [zf_find_none hj ho22]; exact fun q => q rfl), if_neg (by omega), if_pos (by omega)]), rfl⟩)
        · refine zr_bipush (v := (-4)) dWE_train_43 (by decide) ?_
          exact zr_ireturn dWE_train_45 rfl rfl (⟨congrArg (fun x => some (Value.int x)) (by rw [zf_tr2 hj ⟨h4, h12⟩, if_neg (by rw [zf_find_none hj ho22]; exact fun q => q rfl), if_pos (by omega)]), rfl⟩)
      · refine zr_ifnull dWE_train_25 ?_
        refine zr_bipush (v := (-2)) dWE_train_28 (by decide) ?_
        exact zr_ireturn dWE_train_30 rfl rfl (⟨congrArg (fun x => some (Value.int x)) (by rw [zf_tr2 hj ⟨h4, h12⟩, if_pos (by rw [zf_find_some hj ho22]; exact fun q => by cases q)]), rfl⟩)
    · refine zr_iconst (v := (-1)) dWE_train_15 (by decide) ?_
      exact zr_ireturn dWE_train_16 rfl rfl (⟨congrArg (fun x => some (Value.int x)) (by first | exact (zf_tr1 (fun q => h4 q.1)).symm | exact (zf_tr1 (fun q => h12 q.2)).symm), rfl⟩)
theorem zf_ap1 {r : zw_W} {a b : zw_C} {n : Nat} (h : r.length = n) : ((r ++ [a]) ++ [b])[n]? = some a := by
  subst h
  exact zf_app_lt zf_app_at
theorem zf_ap2 {r : zw_W} {a b x : zw_C} {n : Nat} (h : r.length = n) : ((r ++ [a]) ++ [b]).set n x = (r ++ [x]) ++ [b] := by
  subst h
  rw [List.set_append_left _ _ (by simp), zf_app_set]
set_option maxHeartbeats 4000000 in
set_option maxRecDepth 100000 in
theorem c_WE_train_ok {G : zw_G} {n wc len run m pb cn cw : Nat} {tw s1 s2 l1 l2 : Nat → Int64} {g1 g2 pl : Nat → Option Nat} {ids bl fd fe : Nat → Int32} {fr : Nat → Nat → Int32} {r : zw_W} {j c k : Nat} (hwc : wc ≤ 20) (hpb : pb ≤ 24) (hj : j < 32) (hc : c < n) (hn4 : n ≤ 4) (hg : g1 j = none) (hs : zs_size g1 32 < 10) (hfit : pb + (1 + (wc + 4 - 1) / 4) ≤ 24) (hm : m < 24) (hr : r.length = k + 14) : zw_Met G Y_WE_train 3 2 (2 + wc) [.ref 1, .int (nI j), .int (nI c)] (zk_WE n :: zk_Text wc len run :: zk_L 20 tw :: zk_Sh 3 :: zk_D 32 g1 :: zk_L 200 s1 :: zk_Sh 6 :: zk_D 32 g2 :: zk_L 200 s2 :: zk_Log m pb :: zk_I 24 ids :: zk_I 24 bl :: zk_D 24 pl :: zk_Ch cn cw :: zk_I 4 fd :: zk_A 4 zk_ga :: zk_I 20 (fr 0) :: zk_I 20 (fr 1) :: zk_I 20 (fr 2) :: zk_I 20 (fr 3) :: zk_I 4 fe :: zk_P 21 :: zk_L 12 l1 :: zk_P 23 :: zk_L 12 l2 :: r) (fun v w2 => v = some (.int (nI (1 + (wc + 4 - 1) / 4))) ∧ ∃ f2, w2 = (zk_WE n :: zk_Text wc len run :: zk_L 20 tw :: zk_Sh 3 :: zk_D 32 (va_up g1 j (some (k + 40))) :: zk_L 200 s1 :: zk_Sh 6 :: zk_D 32 g2 :: zk_L 200 s2 :: zk_Log (m + 1) (pb + (1 + (wc + 4 - 1) / 4)) :: zk_I 24 (upd ids m (nI j)) :: zk_I 24 (upd bl m (nI (1 + (wc + 4 - 1) / 4))) :: zk_D 24 (va_up pl m (some (k + 40))) :: zk_Ch cn cw :: zk_I 4 fd :: zk_A 4 zk_ga :: zk_I 20 (fr 0) :: zk_I 20 (fr 1) :: zk_I 20 (fr 2) :: zk_I 20 (fr 3) :: zk_I 4 fe :: zk_P 21 :: zk_L 12 l1 :: zk_P 23 :: zk_L 12 l2 :: ((r ++ [.inr (6, [.int (nI c), .ref (k + 41)])]) ++ [zk_L wc f2])) ∧ ∀ i, i < wc → f2 i = tw i) := by
  show zw_Z G Y_WE_train _ _ _ 0 0 0 [some (.ref 1), some (.int (nI j)), some (.int (nI c)), none] [] _
  refine zr_iload_n dWE_train_0 rfl ?_
  refine zr_invS c_WE_isId m_WE_isId k_WE_78 (s_WE_isId) dWE_train_1 rfl (Nat.le_of_ble_eq_true rfl) ⟨Nat.le_of_ble_eq_true rfl, Nat.le_of_ble_eq_true rfl, Nat.le_of_ble_eq_true rfl, by show 0 + 0 ≤ 2 + wc; omega⟩ (Nat.le_of_ble_eq_true rfl) rfl (fun v w2 hp => ?_)
  obtain ⟨rfl, rfl⟩ := hp
  refine ⟨rfl, ?_⟩
  refine zr_if_eqB (tgt := 15) dWE_train_4 (by decide) (fun h4 => ?_) (fun h4 => ?_)
  · exact absurd ⟨nI_pos (by omega), nI_lt hj (by decide)⟩ h4
  · refine zr_aload_n dWE_train_7 rfl rfl ?_
    refine zr_iload_n dWE_train_8 rfl ?_
    refine zr_invV (c_WE_isClass (i := 0) rfl) m_WE_isClass k_WE_81 v_WE_isClass rfl rfl dWE_train_9 rfl (Nat.le_of_ble_eq_true rfl) ⟨Nat.le_of_ble_eq_true rfl, Nat.le_of_ble_eq_true rfl, Nat.le_of_ble_eq_true rfl, by show 0 + 0 ≤ 2 + wc; omega⟩ (Nat.le_of_ble_eq_true rfl) rfl (fun v w2 hp => ?_)
    obtain ⟨rfl, rfl⟩ := hp
    refine ⟨rfl, ?_⟩
    refine zr_if_neB (tgt := 17) dWE_train_12 (by decide) (fun h12 => ?_) (fun h12 => ?_)
    · refine zr_aload_n dWE_train_17 rfl rfl ?_
      refine zr_getf g_WE_19 dWE_train_18 rfl rfl ?_
      refine zr_iload_n dWE_train_21 rfl ?_
      refine zr_invV (c_Shelf_find (i := 3) rfl rfl) m_Shelf_find k_WE_84 v_Shelf_find rfl rfl dWE_train_22 rfl (Nat.le_of_ble_eq_true rfl) (⟨Nat.le_of_ble_eq_true rfl, Nat.le_of_ble_eq_true rfl, Nat.le_of_ble_eq_true rfl, by show 0 + 0 ≤ 2 + wc; omega⟩) (Nat.le_of_ble_eq_true rfl) rfl (fun v w2 hp => ?_)
      obtain ⟨rfl, rfl⟩ := hp
      refine ⟨rfl, ?_⟩
      rw [zf_find_in hj, hg]
      refine zr_ifnullN (tgt := 31) dWE_train_25 (by decide) ?_
      refine zr_aload_n dWE_train_31 rfl rfl ?_
      refine zr_getf g_WE_19 dWE_train_32 rfl rfl ?_
      refine zr_invV (c_Shelf_size (i := 3) rfl rfl) m_Shelf_size k_WE_88 v_Shelf_size rfl rfl dWE_train_35 rfl (Nat.le_of_ble_eq_true rfl) ⟨Nat.le_of_ble_eq_true rfl, Nat.le_of_ble_eq_true rfl, Nat.le_of_ble_eq_true rfl, by show 0 + 0 ≤ 2 + wc; omega⟩ (Nat.le_of_ble_eq_true rfl) rfl (fun v w2 hp => ?_)
      obtain ⟨rfl, rfl⟩ := hp
      refine ⟨rfl, ?_⟩
      refine zr_bipush (v := nI 10) dWE_train_38 (by decide) ?_
      refine zr_icmp_ltN (tgt := 46) (by omega) (by omega) dWE_train_40 (by decide) (fun h40 => ?_) (fun h40 => ?_)
      · refine zr_aload_n dWE_train_46 rfl rfl ?_
        refine zr_getf g_WE_10 dWE_train_47 rfl rfl ?_
        refine zr_getf g_WE_61 dWE_train_50 rfl rfl ?_
        refine zr_invS (c_WE_blocks (by omega)) m_WE_blocksToTrain k_WE_91 (s_WE_blocksToTrain) dWE_train_53 rfl (Nat.le_of_ble_eq_true rfl) ⟨Nat.le_of_ble_eq_true rfl, Nat.le_of_ble_eq_true rfl, Nat.le_of_ble_eq_true rfl, by show 0 + 0 ≤ 2 + wc; omega⟩ (Nat.le_of_ble_eq_true rfl) rfl (fun v w2 hp => ?_)
        obtain ⟨rfl, rfl⟩ := hp
        refine ⟨rfl, ?_⟩
        refine zr_istore_n dWE_train_56 (by decide) ?_
        refine zr_aload_n dWE_train_57 rfl rfl ?_
        refine zr_getf g_WE_29 dWE_train_58 rfl rfl ?_
        refine zr_iload_n dWE_train_61 rfl ?_
        refine zr_invV (c_Log_hasRoomFor (by omega) (by omega)) m_Log_hasRoomFor k_WE_95 v_Log_hasRoomFor rfl rfl dWE_train_62 rfl (Nat.le_of_ble_eq_true rfl) ⟨Nat.le_of_ble_eq_true rfl, Nat.le_of_ble_eq_true rfl, Nat.le_of_ble_eq_true rfl, by show 0 + 0 ≤ 2 + wc; omega⟩ (Nat.le_of_ble_eq_true rfl) rfl (fun v w2 hp => ?_)
        obtain ⟨rfl, rfl⟩ := hp
        refine ⟨rfl, ?_⟩
        refine zr_if_neB (tgt := 71) dWE_train_65 (by decide) (fun h65 => ?_) (fun h65 => ?_)
        · refine zr_aload_n dWE_train_71 rfl rfl ?_
          refine zr_iload_n dWE_train_72 rfl ?_
          refine zr_new nw_WE_98 dWE_train_73 ⟨Nat.le_of_ble_eq_true rfl, by show 0 + 2 ≤ 2 + wc; omega⟩ ?_
          refine zr_top (v2 := .ref (k + 40)) (by rw [show List.length (zk_WE n :: zk_Text wc len run :: zk_L 20 tw :: zk_Sh 3 :: zk_D 32 g1 :: zk_L 200 s1 :: zk_Sh 6 :: zk_D 32 g2 :: zk_L 200 s2 :: zk_Log m pb :: zk_I 24 ids :: zk_I 24 bl :: zk_D 24 pl :: zk_Ch cn cw :: zk_I 4 fd :: zk_A 4 zk_ga :: zk_I 20 (fr 0) :: zk_I 20 (fr 1) :: zk_I 20 (fr 2) :: zk_I 20 (fr 3) :: zk_I 4 fe :: zk_P 21 :: zk_L 12 l1 :: zk_P 23 :: zk_L 12 l2 :: r) = k + 39 from by simp only [List.length_cons]; omega]) ?_
          refine zr_wld (w2 := (zk_WE n :: zk_Text wc len run :: zk_L 20 tw :: zk_Sh 3 :: zk_D 32 g1 :: zk_L 200 s1 :: zk_Sh 6 :: zk_D 32 g2 :: zk_L 200 s2 :: zk_Log m pb :: zk_I 24 ids :: zk_I 24 bl :: zk_D 24 pl :: zk_Ch cn cw :: zk_I 4 fd :: zk_A 4 zk_ga :: zk_I 20 (fr 0) :: zk_I 20 (fr 1) :: zk_I 20 (fr 2) :: zk_I 20 (fr 3) :: zk_I 4 fe :: zk_P 21 :: zk_L 12 l1 :: zk_P 23 :: zk_L 12 l2 :: (r ++ [.inr (6, [.int 0, .null])]))) rfl ?_
          refine zr_dup dWE_train_76 rfl ?_
          refine zr_iload_n dWE_train_77 rfl ?_
          refine zr_aload_n dWE_train_78 rfl rfl ?_
          refine zr_getf g_WE_10 dWE_train_79 rfl rfl ?_
          refine zr_invV (c_Text_copyOfWords hwc) m_Text_copyOfWords k_WE_100 v_Text_copyOfWords rfl rfl dWE_train_82 rfl (Nat.le_of_ble_eq_true rfl) ⟨Nat.le_of_ble_eq_true rfl, Nat.le_of_ble_eq_true rfl, Nat.le_of_ble_eq_true rfl, by show 0 + 2 + wc ≤ 2 + wc; omega⟩ (Nat.le_of_ble_eq_true rfl) rfl (fun v w2 hp => ?_)
          obtain ⟨rfl, f2, rfl, hf2⟩ := hp
          refine ⟨by simp, ?_⟩
          refine zr_top (v2 := .ref (k + 41)) (by simp only [List.length_cons, List.length_append, List.length_nil]; rw [hr]) ?_
          refine zr_wld (w2 := (zk_WE n :: zk_Text wc len run :: zk_L 20 tw :: zk_Sh 3 :: zk_D 32 g1 :: zk_L 200 s1 :: zk_Sh 6 :: zk_D 32 g2 :: zk_L 200 s2 :: zk_Log m pb :: zk_I 24 ids :: zk_I 24 bl :: zk_D 24 pl :: zk_Ch cn cw :: zk_I 4 fd :: zk_A 4 zk_ga :: zk_I 20 (fr 0) :: zk_I 20 (fr 1) :: zk_I 20 (fr 2) :: zk_I 20 (fr 3) :: zk_I 4 fe :: zk_P 21 :: zk_L 12 l1 :: zk_P 23 :: zk_L 12 l2 :: ((r ++ [.inr (6, [.int 0, .null])]) ++ [zk_L wc f2]))) rfl ?_
          refine zr_invI (c_Document_init (q := k + 39) (zf_ap1 hr)) m_Document_init k_WE_104 i_Document_init rfl dWE_train_85 rfl (Nat.le_of_ble_eq_true rfl) ⟨Nat.le_of_ble_eq_true rfl, Nat.le_of_ble_eq_true rfl, Nat.le_of_ble_eq_true rfl, by show 0 + 2 + wc + 0 ≤ 2 + wc; omega⟩ (Nat.le_of_ble_eq_true rfl) rfl (fun v w2 hp => ?_)
          obtain ⟨rfl, rfl⟩ := hp
          refine ⟨by rw [List.length_set]; rfl, ?_⟩
          refine zr_wld (w2 := (zk_WE n :: zk_Text wc len run :: zk_L 20 tw :: zk_Sh 3 :: zk_D 32 g1 :: zk_L 200 s1 :: zk_Sh 6 :: zk_D 32 g2 :: zk_L 200 s2 :: zk_Log m pb :: zk_I 24 ids :: zk_I 24 bl :: zk_D 24 pl :: zk_Ch cn cw :: zk_I 4 fd :: zk_A 4 zk_ga :: zk_I 20 (fr 0) :: zk_I 20 (fr 1) :: zk_I 20 (fr 2) :: zk_I 20 (fr 3) :: zk_I 4 fe :: zk_P 21 :: zk_L 12 l1 :: zk_P 23 :: zk_L 12 l2 :: ((r ++ [.inr (6, [.int (nI c), .ref (k + 41)])]) ++ [zk_L wc f2]))) (congrArg (fun z => (zk_WE n :: zk_Text wc len run :: zk_L 20 tw :: zk_Sh 3 :: zk_D 32 g1 :: zk_L 200 s1 :: zk_Sh 6 :: zk_D 32 g2 :: zk_L 200 s2 :: zk_Log m pb :: zk_I 24 ids :: zk_I 24 bl :: zk_D 24 pl :: zk_Ch cn cw :: zk_I 4 fd :: zk_A 4 zk_ga :: zk_I 20 (fr 0) :: zk_I 20 (fr 1) :: zk_I 20 (fr 2) :: zk_I 20 (fr 3) :: zk_I 4 fe :: zk_P 21 :: zk_L 12 l1 :: zk_P 23 :: zk_L 12 l2 :: z)) (zf_ap2 (b := zk_L wc f2) hr)) ?_
          refine zr_iload_n dWE_train_88 rfl ?_
          refine zr_invV (c_WE_change_some (k := k) hm hj (zf_ap1 hr)) m_WE_change k_WE_107 v_WE_change rfl rfl dWE_train_89 rfl (Nat.le_of_ble_eq_true rfl) ⟨Nat.le_of_ble_eq_true rfl, Nat.le_of_ble_eq_true rfl, Nat.le_of_ble_eq_true rfl, by show 0 + 2 + wc + 0 + 0 ≤ 2 + wc; omega⟩ (Nat.le_of_ble_eq_true rfl) rfl (fun v w2 hp => ?_)
          obtain ⟨rfl, rfl⟩ := hp
          refine ⟨by rfl, ?_⟩
          refine zr_iload_n dWE_train_92 rfl ?_
          exact zr_ireturn dWE_train_93 rfl rfl ⟨rfl, f2, rfl, hf2⟩
        · exact absurd hfit h65
      · exfalso; omega
    · exact absurd ⟨nI_pos (by omega), nI_lt hc (by omega)⟩ h12
def zf_untrain (g : Nat → Option Nat) (pb : Nat) (id : Int32) : Int32 :=
  if ¬ (¬ id < 0 ∧ id < nI 32) then -1 else if g id.toNatClampNeg = none then -3 else if 24 < pb + 1 then -5 else 0
theorem zf_ut {g : Nat → Option Nat} {pb j : Nat} (hj : j < 32) : zf_untrain g pb (nI j) = if g j = none then -3 else if 24 < pb + 1 then -5 else 0 := by
  unfold zf_untrain
  rw [if_neg (fun q => q ⟨nI_pos (by omega), nI_lt hj (by decide)⟩), nI_clamp (by omega)]
set_option maxHeartbeats 4000000 in
set_option maxRecDepth 100000 in
theorem c_WE_untrain_no {G : zw_G} {n wc len run m pb cn cw : Nat} {tw s1 s2 l1 l2 : Nat → Int64} {g1 g2 pl : Nat → Option Nat} {ids bl fd fe : Nat → Int32} {fr : Nat → Nat → Int32} {r : zw_W} {id : Int32} (hpb : pb ≤ 24) (hno : zf_untrain g1 pb id ≠ 0) : zw_Met G Y_WE_untrain 3 0 0 [.ref 1, .int id] ((zk_WE n :: zk_Text wc len run :: zk_L 20 tw :: zk_Sh 3 :: zk_D 32 g1 :: zk_L 200 s1 :: zk_Sh 6 :: zk_D 32 g2 :: zk_L 200 s2 :: zk_Log m pb :: zk_I 24 ids :: zk_I 24 bl :: zk_D 24 pl :: zk_Ch cn cw :: zk_I 4 fd :: zk_A 4 zk_ga :: zk_I 20 (fr 0) :: zk_I 20 (fr 1) :: zk_I 20 (fr 2) :: zk_I 20 (fr 3) :: zk_I 4 fe :: zk_P 21 :: zk_L 12 l1 :: zk_P 23 :: zk_L 12 l2 :: r)) (zw_is (some (.int (zf_untrain g1 pb id))) (zk_WE n :: zk_Text wc len run :: zk_L 20 tw :: zk_Sh 3 :: zk_D 32 g1 :: zk_L 200 s1 :: zk_Sh 6 :: zk_D 32 g2 :: zk_L 200 s2 :: zk_Log m pb :: zk_I 24 ids :: zk_I 24 bl :: zk_D 24 pl :: zk_Ch cn cw :: zk_I 4 fd :: zk_A 4 zk_ga :: zk_I 20 (fr 0) :: zk_I 20 (fr 1) :: zk_I 20 (fr 2) :: zk_I 20 (fr 3) :: zk_I 4 fe :: zk_P 21 :: zk_L 12 l1 :: zk_P 23 :: zk_L 12 l2 :: r)) := by
  show zw_Z G Y_WE_untrain _ _ _ 0 0 0 [some (.ref 1), some (.int id), none] [] _
  refine zr_iload_n dWE_untrain_0 rfl ?_
  refine zr_invS c_WE_isId m_WE_isId k_WE_78 (s_WE_isId) dWE_untrain_1 rfl (Nat.le_of_ble_eq_true rfl) (by decide) (Nat.le_of_ble_eq_true rfl) rfl (fun v w2 hp => ?_)
  obtain ⟨rfl, rfl⟩ := hp
  refine ⟨rfl, ?_⟩
  refine zr_if_neB (tgt := 9) dWE_untrain_4 (by decide) (fun h4 => ?_) (fun h4 => ?_)
  · obtain ⟨j, hj, rfl⟩ := zf_rng (by decide) h4.1 h4.2
    refine zr_aload_n dWE_untrain_9 rfl rfl ?_
    refine zr_getf g_WE_19 dWE_untrain_10 rfl rfl ?_
    refine zr_iload_n dWE_untrain_13 rfl ?_
    refine zr_invV (c_Shelf_find (i := 3) rfl rfl) m_Shelf_find k_WE_84 v_Shelf_find rfl rfl dWE_untrain_14 rfl (Nat.le_of_ble_eq_true rfl) (by decide) (Nat.le_of_ble_eq_true rfl) rfl (fun v w2 hp => ?_)
    obtain ⟨rfl, rfl⟩ := hp
    refine ⟨rfl, ?_⟩
    rcases ho14 : zf_find g1 (nI j) with _ | r14
    · refine zr_astore_n dWE_untrain_17 (by decide) rfl ?_
      refine zr_aload_n dWE_untrain_18 rfl rfl ?_
      refine zr_ifnonnullN dWE_untrain_19 ?_
      refine zr_bipush (v := (-3)) dWE_untrain_22 (by decide) ?_
      exact zr_ireturn dWE_untrain_24 rfl rfl (⟨congrArg (fun x => some (Value.int x)) (by rw [zf_ut hj, if_pos (zf_find_none hj ho14)]), rfl⟩)
    · refine zr_astore_n dWE_untrain_17 (by decide) rfl ?_
      refine zr_aload_n dWE_untrain_18 rfl rfl ?_
      refine zr_ifnonnull (tgt := 25) dWE_untrain_19 (by decide) ?_
      refine zr_aload_n dWE_untrain_25 rfl rfl ?_
      refine zr_getf g_WE_29 dWE_untrain_26 rfl rfl ?_
      refine zr_iconst (v := nI 1) dWE_untrain_29 (by decide) ?_
      refine zr_invV (c_Log_hasRoomFor (by omega) (by decide)) m_Log_hasRoomFor k_WE_95 v_Log_hasRoomFor rfl rfl dWE_untrain_30 rfl (Nat.le_of_ble_eq_true rfl) (by decide) (Nat.le_of_ble_eq_true rfl) rfl (fun v w2 hp => ?_)
      obtain ⟨rfl, rfl⟩ := hp
      refine ⟨rfl, ?_⟩
      refine zr_if_neB (tgt := 39) dWE_untrain_33 (by decide) (fun h33 => ?_) (fun h33 => ?_)
      · exact absurd (by rw [zf_ut hj, if_neg (by rw [zf_find_some hj ho14]; exact fun q => by cases q), if_neg (by omega)]) hno
      · refine zr_bipush (v := (-5)) dWE_untrain_36 (by decide) ?_
        exact zr_ireturn dWE_untrain_38 rfl rfl (⟨congrArg (fun x => some (Value.int x)) (by rw [zf_ut hj, if_neg (by rw [zf_find_some hj ho14]; exact fun q => by cases q), if_pos (by omega)]), rfl⟩)
  · refine zr_iconst (v := (-1)) dWE_untrain_7 (by decide) ?_
    exact zr_ireturn dWE_untrain_8 rfl rfl (⟨congrArg (fun x => some (Value.int x)) (if_pos h4).symm, rfl⟩)
set_option maxHeartbeats 4000000 in
set_option maxRecDepth 100000 in
theorem c_WE_untrain_ok {G : zw_G} {n wc len run m pb cn cw : Nat} {tw s1 s2 l1 l2 : Nat → Int64} {g1 g2 pl : Nat → Option Nat} {ids bl fd fe : Nat → Int32} {fr : Nat → Nat → Int32} {r : zw_W} {j c k : Nat} (hpb : pb ≤ 24) (hj : j < 32) (hg : g1 j = some (k + 40)) (hq : r[k + 14]? = some (.inr (6, [.int (nI c), .ref (k + 41)]))) (hfit : pb + 1 ≤ 24) (hm : m < 24) : zw_Met G Y_WE_untrain 3 0 0 [.ref 1, .int (nI j)] ((zk_WE n :: zk_Text wc len run :: zk_L 20 tw :: zk_Sh 3 :: zk_D 32 g1 :: zk_L 200 s1 :: zk_Sh 6 :: zk_D 32 g2 :: zk_L 200 s2 :: zk_Log m pb :: zk_I 24 ids :: zk_I 24 bl :: zk_D 24 pl :: zk_Ch cn cw :: zk_I 4 fd :: zk_A 4 zk_ga :: zk_I 20 (fr 0) :: zk_I 20 (fr 1) :: zk_I 20 (fr 2) :: zk_I 20 (fr 3) :: zk_I 4 fe :: zk_P 21 :: zk_L 12 l1 :: zk_P 23 :: zk_L 12 l2 :: r)) (zw_is (some (.int (nI c))) (zk_WE n :: zk_Text wc len run :: zk_L 20 tw :: zk_Sh 3 :: zk_D 32 (va_up g1 j none) :: zk_L 200 s1 :: zk_Sh 6 :: zk_D 32 g2 :: zk_L 200 s2 :: zk_Log (m + 1) (pb + 1) :: zk_I 24 (upd ids m (nI j)) :: zk_I 24 (upd bl m (nI 1)) :: zk_D 24 (va_up pl m none) :: zk_Ch cn cw :: zk_I 4 fd :: zk_A 4 zk_ga :: zk_I 20 (fr 0) :: zk_I 20 (fr 1) :: zk_I 20 (fr 2) :: zk_I 20 (fr 3) :: zk_I 4 fe :: zk_P 21 :: zk_L 12 l1 :: zk_P 23 :: zk_L 12 l2 :: r)) := by
  show zw_Z G Y_WE_untrain _ _ _ 0 0 0 [some (.ref 1), some (.int (nI j)), none] [] _
  refine zr_iload_n dWE_untrain_0 rfl ?_
  refine zr_invS c_WE_isId m_WE_isId k_WE_78 (s_WE_isId) dWE_untrain_1 rfl (Nat.le_of_ble_eq_true rfl) (by decide) (Nat.le_of_ble_eq_true rfl) rfl (fun v w2 hp => ?_)
  obtain ⟨rfl, rfl⟩ := hp
  refine ⟨rfl, ?_⟩
  refine zr_if_neB (tgt := 9) dWE_untrain_4 (by decide) (fun h4 => ?_) (fun h4 => ?_)
  · refine zr_aload_n dWE_untrain_9 rfl rfl ?_
    refine zr_getf g_WE_19 dWE_untrain_10 rfl rfl ?_
    refine zr_iload_n dWE_untrain_13 rfl ?_
    refine zr_invV (c_Shelf_find (i := 3) rfl rfl) m_Shelf_find k_WE_84 v_Shelf_find rfl rfl dWE_untrain_14 rfl (Nat.le_of_ble_eq_true rfl) (by decide) (Nat.le_of_ble_eq_true rfl) rfl (fun v w2 hp => ?_)
    obtain ⟨rfl, rfl⟩ := hp
    refine ⟨rfl, ?_⟩
    rw [zf_find_in hj, hg]
    refine zr_astore_n dWE_untrain_17 (by decide) rfl ?_
    refine zr_aload_n dWE_untrain_18 rfl rfl ?_
    refine zr_ifnonnull (tgt := 25) dWE_untrain_19 (by decide) ?_
    refine zr_aload_n dWE_untrain_25 rfl rfl ?_
    refine zr_getf g_WE_29 dWE_untrain_26 rfl rfl ?_
    refine zr_iconst (v := nI 1) dWE_untrain_29 (by decide) ?_
    refine zr_invV (c_Log_hasRoomFor (by omega) (by decide)) m_Log_hasRoomFor k_WE_95 v_Log_hasRoomFor rfl rfl dWE_untrain_30 rfl (Nat.le_of_ble_eq_true rfl) (by decide) (Nat.le_of_ble_eq_true rfl) rfl (fun v w2 hp => ?_)
    obtain ⟨rfl, rfl⟩ := hp
    refine ⟨rfl, ?_⟩
    refine zr_if_neB (tgt := 39) dWE_untrain_33 (by decide) (fun h33 => ?_) (fun h33 => ?_)
    · refine zr_aload_n dWE_untrain_39 rfl rfl ?_
      refine zr_iload_n dWE_untrain_40 rfl ?_
      refine zr_null dWE_untrain_41 ?_
      refine zr_iconst (v := nI 1) dWE_untrain_42 (by decide) ?_
      refine zr_invV (c_WE_change_none hm hj) m_WE_change k_WE_107 v_WE_change rfl rfl dWE_untrain_43 rfl (Nat.le_of_ble_eq_true rfl) (by decide) (Nat.le_of_ble_eq_true rfl) rfl (fun v w2 hp => ?_)
      obtain ⟨rfl, rfl⟩ := hp
      refine ⟨rfl, ?_⟩
      refine zr_aload_n dWE_untrain_46 rfl rfl ?_
      refine zr_getf g_WE_111 dWE_untrain_47 hq rfl ?_
      exact zr_ireturn dWE_untrain_50 rfl rfl (⟨rfl, rfl⟩)
    · exact absurd hfit h33
  · exact absurd ⟨nI_pos (by omega), nI_lt hj (by decide)⟩ h4
end
section
/-! the reference: its object at cell 25, its rows at 26 to 38 -/
abbrev zk_Mo (n ty wo ch : Nat) : zw_C := .inr (7, [.int (nI n), .ref 27, .int (nI ty), .ref 28, .ref 29, .int (nI wo), .ref 30, .ref 31, .ref 32, .int (nI ch), .ref 33, .ref 34, .ref 35, .ref 36, .ref 37, .ref 38, .ref 39])
def mr_ok (s : wt_S) (cu : Nat → Int64) (le : Nat → Int32) : Prop := (∀ i, i < s.1 → cu i = lN (we_b (s.2.1 i))) ∧ (∀ i, i < s.1 → ∀ j, j < 8 → le (8 * i + j) = nI ((s.2.1 i).getD j 0)) ∧ ∀ q, 8 * s.1 ≤ q → q < 160 → le q = 0
theorem wt_next0 {x : Nat → Nat} {k wo ln : Nat} {Wd : Nat → List Nat} (hs : wt_of x k = (wo, Wd, ln)) (h : wf_fold (x k) = 0) : wt_of x (k + 1) = (wo, Wd, 0) := by rw [wt_of, hs, wt_step, if_pos h]
theorem wt_next1 {x : Nat → Nat} {k wo ln : Nat} {Wd : Nat → List Nat} (hs : wt_of x k = (wo, Wd, ln)) (h : wf_fold (x k) ≠ 0) (hl : ln = 0) : wt_of x (k + 1) = (wo + 1, va_up Wd wo [wf_fold (x k)], 1) := by rw [wt_of, hs, wt_step, if_neg h]; exact if_pos hl
theorem wt_next2 {x : Nat → Nat} {k wo ln : Nat} {Wd : Nat → List Nat} (hs : wt_of x k = (wo, Wd, ln)) (h : wf_fold (x k) ≠ 0) (hl : ln ≠ 0) (h8 : ln < 8) : wt_of x (k + 1) = (wo, va_up Wd (wo - 1) (Wd (wo - 1) ++ [wf_fold (x k)]), ln + 1) := by rw [wt_of, hs, wt_step, if_neg h]; exact (if_neg hl).trans (if_pos h8)
theorem wt_next3 {x : Nat → Nat} {k wo ln : Nat} {Wd : Nat → List Nat} (hs : wt_of x k = (wo, Wd, ln)) (h : wf_fold (x k) ≠ 0) (h8 : 8 ≤ ln) : wt_of x (k + 1) = (wo, Wd, ln + 1) := by rw [wt_of, hs, wt_step, if_neg h]; exact (if_neg (show ¬ ln = 0 by omega)).trans (if_neg (show ¬ ln < 8 by omega))
theorem mr_128 (a : Nat) : (128 : Int64) * lN a = lN (128 * a) := lN_mul 128 a
theorem mr_new {wo ln c : Nat} {Wd : Nat → List Nat} {cu : Nat → Int64} {le : Nat → Int32} (h : mr_ok (wo, Wd, ln) cu le) (hw : wo < 20) : mr_ok (wo + 1, va_up Wd wo [c], 1) (vp_updL (vp_updL cu wo 0) wo (lN (128 * 0 + c))) (upd le (8 * wo + 0) (nI c)) := by
  obtain ⟨h1, h2, h3⟩ := h
  simp only at h1 h2 h3
  refine ⟨fun i hi => ?_, fun i hi j hj => ?_, fun q hq1 hq2 => ?_⟩
  · simp only at hi ⊢
    by_cases e : i = wo
    · subst e; rw [zf_upL]; simp [va_up, we_b]
    · rw [zf_upLn e, zf_upLn e, h1 i (by omega)]; simp [va_up, e]
  · simp only at hi ⊢
    by_cases e : i = wo
    · subst e
      by_cases e2 : j = 0
      · subst e2; rw [pk_us]; simp [va_up]
      · rw [pk_un (by omega), h3 _ (by omega) (by omega)]
        simp only [va_up, if_true]
        rw [show ([c] : List Nat).getD j 0 = 0 from by cases j with | zero => exact absurd rfl e2 | succ j => rfl]
        rfl
    · rw [pk_un (by omega), h2 i (by omega) j hj]; simp [va_up, e]
  · simp only at hq1
    rw [pk_un (by omega)]; exact h3 q (by omega) hq2
theorem mr_ext {wo ln c : Nat} {Wd : Nat → List Nat} {cu : Nat → Int64} {le : Nat → Int32} (h : mr_ok (wo, Wd, ln) cu le) (hw : 0 < wo) (hw2 : wo ≤ 20) (hl : ln < 8) (hlen : (Wd (wo - 1)).length = ln) : mr_ok (wo, va_up Wd (wo - 1) (Wd (wo - 1) ++ [c]), ln + 1) (vp_updL cu (wo - 1) (lN (128 * we_b (Wd (wo - 1)) + c))) (upd le (8 * (wo - 1) + ln) (nI c)) := by
  obtain ⟨h1, h2, h3⟩ := h
  simp only at h1 h2 h3
  refine ⟨fun i hi => ?_, fun i hi j hj => ?_, fun q hq1 hq2 => ?_⟩
  · simp only at hi ⊢
    by_cases e : i = wo - 1
    · subst e; rw [zf_upL, ← we_b_snoc]; simp [va_up]
    · rw [zf_upLn e, h1 i hi]; simp [va_up, e]
  · simp only at hi ⊢
    by_cases e : i = wo - 1
    · subst e
      simp only [va_up, if_true]
      by_cases e2 : j = ln
      · subst e2
        rw [pk_us]
        congr 1
        rw [List.getD_eq_getElem?_getD, List.getElem?_append_right (by omega), hlen, Nat.sub_self]
        rfl
      · rw [pk_un (by omega), h2 _ hi j hj]
        congr 1
        rw [List.getD_eq_getElem?_getD, List.getD_eq_getElem?_getD]
        by_cases e3 : j < ln
        · rw [List.getElem?_append_left (by omega)]
        · rw [List.getElem?_append_right (by omega), List.getElem?_eq_none (by omega), List.getElem?_eq_none (by simp; omega)]
    · rw [pk_un (by omega), h2 i hi j hj]; simp [va_up, e]
  · simp only at hq1
    rw [pk_un (by omega)]; exact h3 q (by omega) hq2
set_option maxHeartbeats 4000000 in
set_option maxRecDepth 100000 in
theorem c_Mo_init {G : zw_G} {c0 c1 c2 c3 c4 c5 c6 c7 c8 c9 c10 c11 c12 c13 c14 c15 c16 c17 c18 c19 c20 c21 c22 c23 c24 : zw_C} {x : Int32} : zw_Met G Y_Mo_init 1 13 2304 [.ref 26, .int x] ([c0, c1, c2, c3, c4, c5, c6, c7, c8, c9, c10, c11, c12, c13, c14, c15, c16, c17, c18, c19, c20, c21, c22, c23, c24, .inr (7, [.int 0, .null, .int 0, .null, .null, .int 0, .null, .null, .null, .int 0, .null, .null, .null, .null, .null, .null, .null])]) (zw_is none [c0, c1, c2, c3, c4, c5, c6, c7, c8, c9, c10, c11, c12, c13, c14, c15, c16, c17, c18, c19, c20, c21, c22, c23, c24, zk_Mo (zf_cls x) 0 0 0, zk_I 40 (fun _ => 0), zk_L 20 (fun _ => 0), zk_I 160 (fun _ => 0), zk_I 64 (fun _ => 0), zk_I 64 (fun _ => 0), zk_L 1280 (fun _ => 0), zk_I 24 (fun _ => 0), zk_I 24 (fun _ => 0), zk_I 24 (fun _ => 0), zk_I 24 (fun _ => 0), zk_L 480 (fun _ => 0), zk_I 50 (fun _ => 0), zk_I 50 (fun _ => 0)]) := by
  show zw_Z G Y_Mo_init _ _ _ 0 0 0 [some (.ref 26), some (.int x)] [] _
  refine zr_aload_n dMo_init_0 rfl rfl ?_
  refine zr_objInit o_Mo_1 t_oi t_oc dMo_init_1 (by decide) ?_
  refine zr_aload_n dMo_init_4 rfl rfl ?_
  refine zr_bipush (v := nI 40) dMo_init_5 (by decide) ?_
  refine zr_newI t_arrI dMo_init_7 (by decide) (by decide) ?_
  refine zr_top (v2 := .ref 27) rfl ?_
  refine zr_putF f_Mo_7 rfl dMo_init_9 rfl (Nat.le_of_ble_eq_true rfl) (fun _ => rfl) (fun _ => rfl) ?_
  refine zr_wld (w2 := [c0, c1, c2, c3, c4, c5, c6, c7, c8, c9, c10, c11, c12, c13, c14, c15, c16, c17, c18, c19, c20, c21, c22, c23, c24, .inr (7, [.int 0, .ref 27, .int 0, .null, .null, .int 0, .null, .null, .null, .int 0, .null, .null, .null, .null, .null, .null, .null]), zk_I 40 (fun _ => 0)]) rfl ?_
  refine zr_aload_n dMo_init_12 rfl rfl ?_
  refine zr_bipush (v := nI 20) dMo_init_13 (by decide) ?_
  refine zr_newL t_arrL dMo_init_15 (by decide) (by decide) ?_
  refine zr_top (v2 := .ref 28) rfl ?_
  refine zr_putF f_Mo_13 rfl dMo_init_17 rfl (Nat.le_of_ble_eq_true rfl) (fun _ => rfl) (fun _ => rfl) ?_
  refine zr_wld (w2 := [c0, c1, c2, c3, c4, c5, c6, c7, c8, c9, c10, c11, c12, c13, c14, c15, c16, c17, c18, c19, c20, c21, c22, c23, c24, .inr (7, [.int 0, .ref 27, .int 0, .ref 28, .null, .int 0, .null, .null, .null, .int 0, .null, .null, .null, .null, .null, .null, .null]), zk_I 40 (fun _ => 0), zk_L 20 (fun _ => 0)]) rfl ?_
  refine zr_aload_n dMo_init_20 rfl rfl ?_
  refine zr_sipush (v := nI 160) dMo_init_21 (by decide) ?_
  refine zr_newI t_arrI dMo_init_24 (by decide) (by decide) ?_
  refine zr_top (v2 := .ref 29) rfl ?_
  refine zr_putF f_Mo_17 rfl dMo_init_26 rfl (Nat.le_of_ble_eq_true rfl) (fun _ => rfl) (fun _ => rfl) ?_
  refine zr_wld (w2 := [c0, c1, c2, c3, c4, c5, c6, c7, c8, c9, c10, c11, c12, c13, c14, c15, c16, c17, c18, c19, c20, c21, c22, c23, c24, .inr (7, [.int 0, .ref 27, .int 0, .ref 28, .ref 29, .int 0, .null, .null, .null, .int 0, .null, .null, .null, .null, .null, .null, .null]), zk_I 40 (fun _ => 0), zk_L 20 (fun _ => 0), zk_I 160 (fun _ => 0)]) rfl ?_
  refine zr_aload_n dMo_init_29 rfl rfl ?_
  refine zr_bipush (v := nI 64) dMo_init_30 (by decide) ?_
  refine zr_newI t_arrI dMo_init_32 (by decide) (by decide) ?_
  refine zr_top (v2 := .ref 30) rfl ?_
  refine zr_putF f_Mo_20 rfl dMo_init_34 rfl (Nat.le_of_ble_eq_true rfl) (fun _ => rfl) (fun _ => rfl) ?_
  refine zr_wld (w2 := [c0, c1, c2, c3, c4, c5, c6, c7, c8, c9, c10, c11, c12, c13, c14, c15, c16, c17, c18, c19, c20, c21, c22, c23, c24, .inr (7, [.int 0, .ref 27, .int 0, .ref 28, .ref 29, .int 0, .ref 30, .null, .null, .int 0, .null, .null, .null, .null, .null, .null, .null]), zk_I 40 (fun _ => 0), zk_L 20 (fun _ => 0), zk_I 160 (fun _ => 0), zk_I 64 (fun _ => 0)]) rfl ?_
  refine zr_aload_n dMo_init_37 rfl rfl ?_
  refine zr_bipush (v := nI 64) dMo_init_38 (by decide) ?_
  refine zr_newI t_arrI dMo_init_40 (by decide) (by decide) ?_
  refine zr_top (v2 := .ref 31) rfl ?_
  refine zr_putF f_Mo_23 rfl dMo_init_42 rfl (Nat.le_of_ble_eq_true rfl) (fun _ => rfl) (fun _ => rfl) ?_
  refine zr_wld (w2 := [c0, c1, c2, c3, c4, c5, c6, c7, c8, c9, c10, c11, c12, c13, c14, c15, c16, c17, c18, c19, c20, c21, c22, c23, c24, .inr (7, [.int 0, .ref 27, .int 0, .ref 28, .ref 29, .int 0, .ref 30, .ref 31, .null, .int 0, .null, .null, .null, .null, .null, .null, .null]), zk_I 40 (fun _ => 0), zk_L 20 (fun _ => 0), zk_I 160 (fun _ => 0), zk_I 64 (fun _ => 0), zk_I 64 (fun _ => 0)]) rfl ?_
  refine zr_aload_n dMo_init_45 rfl rfl ?_
  refine zr_sipush (v := nI 1280) dMo_init_46 (by decide) ?_
  refine zr_newL t_arrL dMo_init_49 (by decide) (by decide) ?_
  refine zr_top (v2 := .ref 32) rfl ?_
  refine zr_putF f_Mo_26 rfl dMo_init_51 rfl (Nat.le_of_ble_eq_true rfl) (fun _ => rfl) (fun _ => rfl) ?_
  refine zr_wld (w2 := [c0, c1, c2, c3, c4, c5, c6, c7, c8, c9, c10, c11, c12, c13, c14, c15, c16, c17, c18, c19, c20, c21, c22, c23, c24, .inr (7, [.int 0, .ref 27, .int 0, .ref 28, .ref 29, .int 0, .ref 30, .ref 31, .ref 32, .int 0, .null, .null, .null, .null, .null, .null, .null]), zk_I 40 (fun _ => 0), zk_L 20 (fun _ => 0), zk_I 160 (fun _ => 0), zk_I 64 (fun _ => 0), zk_I 64 (fun _ => 0), zk_L 1280 (fun _ => 0)]) rfl ?_
  refine zr_aload_n dMo_init_54 rfl rfl ?_
  refine zr_bipush (v := nI 24) dMo_init_55 (by decide) ?_
  refine zr_newI t_arrI dMo_init_57 (by decide) (by decide) ?_
  refine zr_top (v2 := .ref 33) rfl ?_
  refine zr_putF f_Mo_29 rfl dMo_init_59 rfl (Nat.le_of_ble_eq_true rfl) (fun _ => rfl) (fun _ => rfl) ?_
  refine zr_wld (w2 := [c0, c1, c2, c3, c4, c5, c6, c7, c8, c9, c10, c11, c12, c13, c14, c15, c16, c17, c18, c19, c20, c21, c22, c23, c24, .inr (7, [.int 0, .ref 27, .int 0, .ref 28, .ref 29, .int 0, .ref 30, .ref 31, .ref 32, .int 0, .ref 33, .null, .null, .null, .null, .null, .null]), zk_I 40 (fun _ => 0), zk_L 20 (fun _ => 0), zk_I 160 (fun _ => 0), zk_I 64 (fun _ => 0), zk_I 64 (fun _ => 0), zk_L 1280 (fun _ => 0), zk_I 24 (fun _ => 0)]) rfl ?_
  refine zr_aload_n dMo_init_62 rfl rfl ?_
  refine zr_bipush (v := nI 24) dMo_init_63 (by decide) ?_
  refine zr_newI t_arrI dMo_init_65 (by decide) (by decide) ?_
  refine zr_top (v2 := .ref 34) rfl ?_
  refine zr_putF f_Mo_32 rfl dMo_init_67 rfl (Nat.le_of_ble_eq_true rfl) (fun _ => rfl) (fun _ => rfl) ?_
  refine zr_wld (w2 := [c0, c1, c2, c3, c4, c5, c6, c7, c8, c9, c10, c11, c12, c13, c14, c15, c16, c17, c18, c19, c20, c21, c22, c23, c24, .inr (7, [.int 0, .ref 27, .int 0, .ref 28, .ref 29, .int 0, .ref 30, .ref 31, .ref 32, .int 0, .ref 33, .ref 34, .null, .null, .null, .null, .null]), zk_I 40 (fun _ => 0), zk_L 20 (fun _ => 0), zk_I 160 (fun _ => 0), zk_I 64 (fun _ => 0), zk_I 64 (fun _ => 0), zk_L 1280 (fun _ => 0), zk_I 24 (fun _ => 0), zk_I 24 (fun _ => 0)]) rfl ?_
  refine zr_aload_n dMo_init_70 rfl rfl ?_
  refine zr_bipush (v := nI 24) dMo_init_71 (by decide) ?_
  refine zr_newI t_arrI dMo_init_73 (by decide) (by decide) ?_
  refine zr_top (v2 := .ref 35) rfl ?_
  refine zr_putF f_Mo_35 rfl dMo_init_75 rfl (Nat.le_of_ble_eq_true rfl) (fun _ => rfl) (fun _ => rfl) ?_
  refine zr_wld (w2 := [c0, c1, c2, c3, c4, c5, c6, c7, c8, c9, c10, c11, c12, c13, c14, c15, c16, c17, c18, c19, c20, c21, c22, c23, c24, .inr (7, [.int 0, .ref 27, .int 0, .ref 28, .ref 29, .int 0, .ref 30, .ref 31, .ref 32, .int 0, .ref 33, .ref 34, .ref 35, .null, .null, .null, .null]), zk_I 40 (fun _ => 0), zk_L 20 (fun _ => 0), zk_I 160 (fun _ => 0), zk_I 64 (fun _ => 0), zk_I 64 (fun _ => 0), zk_L 1280 (fun _ => 0), zk_I 24 (fun _ => 0), zk_I 24 (fun _ => 0), zk_I 24 (fun _ => 0)]) rfl ?_
  refine zr_aload_n dMo_init_78 rfl rfl ?_
  refine zr_bipush (v := nI 24) dMo_init_79 (by decide) ?_
  refine zr_newI t_arrI dMo_init_81 (by decide) (by decide) ?_
  refine zr_top (v2 := .ref 36) rfl ?_
  refine zr_putF f_Mo_38 rfl dMo_init_83 rfl (Nat.le_of_ble_eq_true rfl) (fun _ => rfl) (fun _ => rfl) ?_
  refine zr_wld (w2 := [c0, c1, c2, c3, c4, c5, c6, c7, c8, c9, c10, c11, c12, c13, c14, c15, c16, c17, c18, c19, c20, c21, c22, c23, c24, .inr (7, [.int 0, .ref 27, .int 0, .ref 28, .ref 29, .int 0, .ref 30, .ref 31, .ref 32, .int 0, .ref 33, .ref 34, .ref 35, .ref 36, .null, .null, .null]), zk_I 40 (fun _ => 0), zk_L 20 (fun _ => 0), zk_I 160 (fun _ => 0), zk_I 64 (fun _ => 0), zk_I 64 (fun _ => 0), zk_L 1280 (fun _ => 0), zk_I 24 (fun _ => 0), zk_I 24 (fun _ => 0), zk_I 24 (fun _ => 0), zk_I 24 (fun _ => 0)]) rfl ?_
  refine zr_aload_n dMo_init_86 rfl rfl ?_
  refine zr_sipush (v := nI 480) dMo_init_87 (by decide) ?_
  refine zr_newL t_arrL dMo_init_90 (by decide) (by decide) ?_
  refine zr_top (v2 := .ref 37) rfl ?_
  refine zr_putF f_Mo_41 rfl dMo_init_92 rfl (Nat.le_of_ble_eq_true rfl) (fun _ => rfl) (fun _ => rfl) ?_
  refine zr_wld (w2 := [c0, c1, c2, c3, c4, c5, c6, c7, c8, c9, c10, c11, c12, c13, c14, c15, c16, c17, c18, c19, c20, c21, c22, c23, c24, .inr (7, [.int 0, .ref 27, .int 0, .ref 28, .ref 29, .int 0, .ref 30, .ref 31, .ref 32, .int 0, .ref 33, .ref 34, .ref 35, .ref 36, .ref 37, .null, .null]), zk_I 40 (fun _ => 0), zk_L 20 (fun _ => 0), zk_I 160 (fun _ => 0), zk_I 64 (fun _ => 0), zk_I 64 (fun _ => 0), zk_L 1280 (fun _ => 0), zk_I 24 (fun _ => 0), zk_I 24 (fun _ => 0), zk_I 24 (fun _ => 0), zk_I 24 (fun _ => 0), zk_L 480 (fun _ => 0)]) rfl ?_
  refine zr_aload_n dMo_init_95 rfl rfl ?_
  refine zr_bipush (v := nI 50) dMo_init_96 (by decide) ?_
  refine zr_newI t_arrI dMo_init_98 (by decide) (by decide) ?_
  refine zr_top (v2 := .ref 38) rfl ?_
  refine zr_putF f_Mo_44 rfl dMo_init_100 rfl (Nat.le_of_ble_eq_true rfl) (fun _ => rfl) (fun _ => rfl) ?_
  refine zr_wld (w2 := [c0, c1, c2, c3, c4, c5, c6, c7, c8, c9, c10, c11, c12, c13, c14, c15, c16, c17, c18, c19, c20, c21, c22, c23, c24, .inr (7, [.int 0, .ref 27, .int 0, .ref 28, .ref 29, .int 0, .ref 30, .ref 31, .ref 32, .int 0, .ref 33, .ref 34, .ref 35, .ref 36, .ref 37, .ref 38, .null]), zk_I 40 (fun _ => 0), zk_L 20 (fun _ => 0), zk_I 160 (fun _ => 0), zk_I 64 (fun _ => 0), zk_I 64 (fun _ => 0), zk_L 1280 (fun _ => 0), zk_I 24 (fun _ => 0), zk_I 24 (fun _ => 0), zk_I 24 (fun _ => 0), zk_I 24 (fun _ => 0), zk_L 480 (fun _ => 0), zk_I 50 (fun _ => 0)]) rfl ?_
  refine zr_aload_n dMo_init_103 rfl rfl ?_
  refine zr_bipush (v := nI 50) dMo_init_104 (by decide) ?_
  refine zr_newI t_arrI dMo_init_106 (by decide) (by decide) ?_
  refine zr_top (v2 := .ref 39) rfl ?_
  refine zr_putF f_Mo_47 rfl dMo_init_108 rfl (Nat.le_of_ble_eq_true rfl) (fun _ => rfl) (fun _ => rfl) ?_
  refine zr_wld (w2 := [c0, c1, c2, c3, c4, c5, c6, c7, c8, c9, c10, c11, c12, c13, c14, c15, c16, c17, c18, c19, c20, c21, c22, c23, c24, .inr (7, [.int 0, .ref 27, .int 0, .ref 28, .ref 29, .int 0, .ref 30, .ref 31, .ref 32, .int 0, .ref 33, .ref 34, .ref 35, .ref 36, .ref 37, .ref 38, .ref 39]), zk_I 40 (fun _ => 0), zk_L 20 (fun _ => 0), zk_I 160 (fun _ => 0), zk_I 64 (fun _ => 0), zk_I 64 (fun _ => 0), zk_L 1280 (fun _ => 0), zk_I 24 (fun _ => 0), zk_I 24 (fun _ => 0), zk_I 24 (fun _ => 0), zk_I 24 (fun _ => 0), zk_L 480 (fun _ => 0), zk_I 50 (fun _ => 0), zk_I 50 (fun _ => 0)]) rfl ?_
  refine zr_aload_n dMo_init_111 rfl rfl ?_
  refine zr_iload_n dMo_init_112 rfl ?_
  refine zr_iconst (v := nI 2) dMo_init_113 (by decide) ?_
  refine zr_icmp_ge (tgt := 121) dMo_init_114 (by decide) (fun h114 => ?_) (fun h114 => ?_)
  · refine zr_iload_n dMo_init_121 rfl ?_
    refine zr_iconst (v := nI 4) dMo_init_122 (by decide) ?_
    refine zr_icmp_le (tgt := 130) dMo_init_123 (by decide) (fun h123 => ?_) (fun h123 => ?_)
    · refine zr_iload_n dMo_init_130 rfl ?_
      refine zr_topI (y := nI (zf_cls x)) (by first | (unfold zf_cls; rw [if_pos (Int32.not_le.mp h114)]; done) | (unfold zf_cls; rw [if_neg (Int32.not_lt.mpr h114), if_pos (Int32.not_le.mp h123)]; done) | (exact ((zf_cls_in x).2.2 (Int32.not_lt.mpr h114) (Int32.not_lt.mpr h123)))) ?_
      refine zr_putf f_Mo_50 dMo_init_131 rfl (Nat.le_of_ble_eq_true rfl) (fun _ => rfl) (fun _ => rfl) ?_
      exact zr_return dMo_init_134 rfl (⟨rfl, rfl⟩)
    · refine zr_iconst (v := nI 4) dMo_init_126 (by decide) ?_
      refine zr_goto (tgt := 131) dMo_init_127 (by decide) ?_
      refine zr_topI (y := nI (zf_cls x)) (by first | (unfold zf_cls; rw [if_pos (Int32.not_le.mp h114)]; done) | (unfold zf_cls; rw [if_neg (Int32.not_lt.mpr h114), if_pos (Int32.not_le.mp h123)]; done) | (exact ((zf_cls_in x).2.2 (Int32.not_lt.mpr h114) (Int32.not_lt.mpr h123)))) ?_
      refine zr_putf f_Mo_50 dMo_init_131 rfl (Nat.le_of_ble_eq_true rfl) (fun _ => rfl) (fun _ => rfl) ?_
      exact zr_return dMo_init_134 rfl (⟨rfl, rfl⟩)
  · refine zr_iconst (v := nI 2) dMo_init_117 (by decide) ?_
    refine zr_goto (tgt := 131) dMo_init_118 (by decide) ?_
    refine zr_topI (y := nI (zf_cls x)) (by first | (unfold zf_cls; rw [if_pos (Int32.not_le.mp h114)]; done) | (unfold zf_cls; rw [if_neg (Int32.not_lt.mpr h114), if_pos (Int32.not_le.mp h123)]; done) | (exact ((zf_cls_in x).2.2 (Int32.not_lt.mpr h114) (Int32.not_lt.mpr h123)))) ?_
    refine zr_putf f_Mo_50 dMo_init_131 rfl (Nat.le_of_ble_eq_true rfl) (fun _ => rfl) (fun _ => rfl) ?_
    exact zr_return dMo_init_134 rfl (⟨rfl, rfl⟩)
set_option maxHeartbeats 4000000 in
set_option maxRecDepth 100000 in
theorem c_Mo_key {G : zw_G} {c0 c1 c2 c3 c4 c5 c6 c7 c8 c9 c10 c11 c12 c13 c14 c15 c16 c17 c18 c19 c20 c21 c22 c23 c24 : zw_C} {n ty wo ch : Nat} {tx le la sz wh wt ma bk lf rt : Nat → Int32} {cu co wr : Nat → Int64} {r : zw_W} {c : Nat} (hc : c < 65536) (hty : ty ≤ 40) : zw_Met G Y_Mo_key 0 0 0 [.ref 26, .int (nI c)] ((c0 :: c1 :: c2 :: c3 :: c4 :: c5 :: c6 :: c7 :: c8 :: c9 :: c10 :: c11 :: c12 :: c13 :: c14 :: c15 :: c16 :: c17 :: c18 :: c19 :: c20 :: c21 :: c22 :: c23 :: c24 :: zk_Mo n ty wo ch :: zk_I 40 tx :: zk_L 20 cu :: zk_I 160 le :: zk_I 64 la :: zk_I 64 sz :: zk_L 1280 co :: zk_I 24 wh :: zk_I 24 wt :: zk_I 24 ma :: zk_I 24 bk :: zk_L 480 wr :: zk_I 50 lf :: zk_I 50 rt :: r)) (zw_is (some (.int (zw_b (32 ≤ c ∧ c ≤ 126 ∧ ty < 40)))) (if 32 ≤ c ∧ c ≤ 126 ∧ ty < 40 then (c0 :: c1 :: c2 :: c3 :: c4 :: c5 :: c6 :: c7 :: c8 :: c9 :: c10 :: c11 :: c12 :: c13 :: c14 :: c15 :: c16 :: c17 :: c18 :: c19 :: c20 :: c21 :: c22 :: c23 :: c24 :: zk_Mo n (ty + 1) wo ch :: zk_I 40 (upd tx ty (nI c)) :: zk_L 20 cu :: zk_I 160 le :: zk_I 64 la :: zk_I 64 sz :: zk_L 1280 co :: zk_I 24 wh :: zk_I 24 wt :: zk_I 24 ma :: zk_I 24 bk :: zk_L 480 wr :: zk_I 50 lf :: zk_I 50 rt :: r) else (c0 :: c1 :: c2 :: c3 :: c4 :: c5 :: c6 :: c7 :: c8 :: c9 :: c10 :: c11 :: c12 :: c13 :: c14 :: c15 :: c16 :: c17 :: c18 :: c19 :: c20 :: c21 :: c22 :: c23 :: c24 :: zk_Mo n ty wo ch :: zk_I 40 tx :: zk_L 20 cu :: zk_I 160 le :: zk_I 64 la :: zk_I 64 sz :: zk_L 1280 co :: zk_I 24 wh :: zk_I 24 wt :: zk_I 24 ma :: zk_I 24 bk :: zk_L 480 wr :: zk_I 50 lf :: zk_I 50 rt :: r))) := by
  show zw_Z G Y_Mo_key _ _ _ 0 0 0 [some (.ref 26), some (.int (nI c))] [] _
  refine zr_iload_n dMo_key_0 rfl ?_
  refine zr_bipush (v := nI 32) dMo_key_1 (by decide) ?_
  refine zr_icmp_ltN (tgt := 21) (by omega) (by omega) dMo_key_3 (by decide) (fun h3 => ?_) (fun h3 => ?_)
  · refine zr_iconst (v := nI 0) dMo_key_21 (by decide) ?_
    exact zr_ireturn dMo_key_22 rfl rfl (⟨congrArg (fun x => some (Value.int x)) (zw_b0 (by omega)).symm, (if_neg (by omega)).symm⟩)
  · refine zr_iload_n dMo_key_6 rfl ?_
    refine zr_bipush (v := nI 126) dMo_key_7 (by decide) ?_
    refine zr_icmp_gtN (tgt := 21) (by omega) (by omega) dMo_key_9 (by decide) (fun h9 => ?_) (fun h9 => ?_)
    · refine zr_iconst (v := nI 0) dMo_key_21 (by decide) ?_
      exact zr_ireturn dMo_key_22 rfl rfl (⟨congrArg (fun x => some (Value.int x)) (zw_b0 (by omega)).symm, (if_neg (by omega)).symm⟩)
    · refine zr_aload_n dMo_key_12 rfl rfl ?_
      refine zr_getf g_Mo_54 dMo_key_13 rfl rfl ?_
      refine zr_bipush (v := nI 40) dMo_key_16 (by decide) ?_
      refine zr_icmp_neN (tgt := 23) (by omega) (by omega) dMo_key_18 (by decide) (fun h18 => ?_) (fun h18 => ?_)
      · refine zr_aload_n dMo_key_23 rfl rfl ?_
        refine zr_getf g_Mo_7 dMo_key_24 rfl rfl ?_
        refine zr_aload_n dMo_key_27 rfl rfl ?_
        refine zr_getf g_Mo_54 dMo_key_28 rfl rfl ?_
        refine zr_iload_n dMo_key_31 rfl ?_
        refine zr_iast dMo_key_32 rfl (by omega) (by decide) ?_
        refine zr_aload_n dMo_key_33 rfl rfl ?_
        refine zr_dup dMo_key_34 rfl ?_
        refine zr_getf g_Mo_54 dMo_key_35 rfl rfl ?_
        refine zr_iconst (v := nI 1) dMo_key_38 (by decide) ?_
        refine zr_iaddN dMo_key_39 ?_
        refine zr_putf f_Mo_54 dMo_key_40 rfl (Nat.le_of_ble_eq_true rfl) (fun _ => rfl) (fun _ => rfl) ?_
        refine zr_iconst (v := nI 1) dMo_key_43 (by decide) ?_
        exact zr_ireturn dMo_key_44 rfl rfl (⟨congrArg (fun x => some (Value.int x)) (zw_b1 (by omega)).symm, (if_pos (by omega)).symm⟩)
      · refine zr_iconst (v := nI 0) dMo_key_21 (by decide) ?_
        exact zr_ireturn dMo_key_22 rfl rfl (⟨congrArg (fun x => some (Value.int x)) (zw_b0 (by omega)).symm, (if_neg (by omega)).symm⟩)
set_option maxHeartbeats 4000000 in
set_option maxRecDepth 100000 in
theorem c_Mo_clear {G : zw_G} {c0 c1 c2 c3 c4 c5 c6 c7 c8 c9 c10 c11 c12 c13 c14 c15 c16 c17 c18 c19 c20 c21 c22 c23 c24 : zw_C} {n ty wo ch : Nat} {tx le la sz wh wt ma bk lf rt : Nat → Int32} {cu co wr : Nat → Int64} {r : zw_W} : zw_Met G Y_Mo_clear 0 0 0 [.ref 26] ((c0 :: c1 :: c2 :: c3 :: c4 :: c5 :: c6 :: c7 :: c8 :: c9 :: c10 :: c11 :: c12 :: c13 :: c14 :: c15 :: c16 :: c17 :: c18 :: c19 :: c20 :: c21 :: c22 :: c23 :: c24 :: zk_Mo n ty wo ch :: zk_I 40 tx :: zk_L 20 cu :: zk_I 160 le :: zk_I 64 la :: zk_I 64 sz :: zk_L 1280 co :: zk_I 24 wh :: zk_I 24 wt :: zk_I 24 ma :: zk_I 24 bk :: zk_L 480 wr :: zk_I 50 lf :: zk_I 50 rt :: r)) (zw_is (some (.int (nI ty))) (c0 :: c1 :: c2 :: c3 :: c4 :: c5 :: c6 :: c7 :: c8 :: c9 :: c10 :: c11 :: c12 :: c13 :: c14 :: c15 :: c16 :: c17 :: c18 :: c19 :: c20 :: c21 :: c22 :: c23 :: c24 :: zk_Mo n 0 wo ch :: zk_I 40 tx :: zk_L 20 cu :: zk_I 160 le :: zk_I 64 la :: zk_I 64 sz :: zk_L 1280 co :: zk_I 24 wh :: zk_I 24 wt :: zk_I 24 ma :: zk_I 24 bk :: zk_L 480 wr :: zk_I 50 lf :: zk_I 50 rt :: r)) := by
  show zw_Z G Y_Mo_clear _ _ _ 0 0 0 [some (.ref 26), none] [] _
  refine zr_aload_n dMo_clear_0 rfl rfl ?_
  refine zr_getf g_Mo_54 dMo_clear_1 rfl rfl ?_
  refine zr_istore_n dMo_clear_4 (by decide) ?_
  refine zr_aload_n dMo_clear_5 rfl rfl ?_
  refine zr_iconst (v := nI 0) dMo_clear_6 (by decide) ?_
  refine zr_putf f_Mo_54 dMo_clear_7 rfl (Nat.le_of_ble_eq_true rfl) (fun _ => rfl) (fun _ => rfl) ?_
  refine zr_iload_n dMo_clear_10 rfl ?_
  exact zr_ireturn dMo_clear_11 rfl rfl (⟨rfl, rfl⟩)
set_option maxHeartbeats 4000000 in
set_option maxRecDepth 100000 in
theorem c_Mo_plain {G : zw_G} {w : zw_W} {c : Nat} (hc : c < 65536) : zw_Met G Y_Mo_plain 0 0 0 [.int (nI c)] (w) (zw_is (some (.int (nI (wf_fold c)))) w) := by
  show zw_Z G Y_Mo_plain _ _ _ 0 0 0 [some (.int (nI c))] [] _
  refine zr_iload_n dMo_plain_0 rfl ?_
  refine zr_bipush (v := nI 65) dMo_plain_1 (by decide) ?_
  refine zr_icmp_ltN (tgt := 19) (by omega) (by omega) dMo_plain_3 (by decide) (fun h3 => ?_) (fun h3 => ?_)
  · refine zr_iload_n dMo_plain_19 rfl ?_
    refine zr_bipush (v := nI 97) dMo_plain_20 (by decide) ?_
    refine zr_icmp_ltN (tgt := 31) (by omega) (by omega) dMo_plain_22 (by decide) (fun h22 => ?_) (fun h22 => ?_)
    · refine zr_iload_n dMo_plain_31 rfl ?_
      refine zr_bipush (v := nI 48) dMo_plain_32 (by decide) ?_
      refine zr_icmp_ltN (tgt := 47) (by omega) (by omega) dMo_plain_34 (by decide) (fun h34 => ?_) (fun h34 => ?_)
      · refine zr_iconst (v := nI 0) dMo_plain_47 (by decide) ?_
        exact zr_ireturn dMo_plain_48 rfl rfl (⟨congrArg (fun x => some (Value.int x)) (by unfold wf_fold; (repeat' split) <;> first | rfl | (exfalso; omega) | (congr 1; omega) | omega), rfl⟩)
      · refine zr_iload_n dMo_plain_37 rfl ?_
        refine zr_bipush (v := nI 57) dMo_plain_38 (by decide) ?_
        refine zr_icmp_gtN (tgt := 47) (by omega) (by omega) dMo_plain_40 (by decide) (fun h40 => ?_) (fun h40 => ?_)
        · refine zr_iconst (v := nI 0) dMo_plain_47 (by decide) ?_
          exact zr_ireturn dMo_plain_48 rfl rfl (⟨congrArg (fun x => some (Value.int x)) (by unfold wf_fold; (repeat' split) <;> first | rfl | (exfalso; omega) | (congr 1; omega) | omega), rfl⟩)
        · refine zr_iload_n dMo_plain_43 rfl ?_
          refine zr_goto (tgt := 48) dMo_plain_44 (by decide) ?_
          exact zr_ireturn dMo_plain_48 rfl rfl (⟨congrArg (fun x => some (Value.int x)) (by unfold wf_fold; (repeat' split) <;> first | rfl | (exfalso; omega) | (congr 1; omega) | omega), rfl⟩)
    · refine zr_iload_n dMo_plain_25 rfl ?_
      refine zr_bipush (v := nI 122) dMo_plain_26 (by decide) ?_
      refine zr_icmp_leN (tgt := 43) (by omega) (by omega) dMo_plain_28 (by decide) (fun h28 => ?_) (fun h28 => ?_)
      · refine zr_iload_n dMo_plain_43 rfl ?_
        refine zr_goto (tgt := 48) dMo_plain_44 (by decide) ?_
        exact zr_ireturn dMo_plain_48 rfl rfl (⟨congrArg (fun x => some (Value.int x)) (by unfold wf_fold; (repeat' split) <;> first | rfl | (exfalso; omega) | (congr 1; omega) | omega), rfl⟩)
      · refine zr_iload_n dMo_plain_31 rfl ?_
        refine zr_bipush (v := nI 48) dMo_plain_32 (by decide) ?_
        refine zr_icmp_ltN (tgt := 47) (by omega) (by omega) dMo_plain_34 (by decide) (fun h34 => ?_) (fun h34 => ?_)
        · refine zr_iconst (v := nI 0) dMo_plain_47 (by decide) ?_
          exact zr_ireturn dMo_plain_48 rfl rfl (⟨congrArg (fun x => some (Value.int x)) (by unfold wf_fold; (repeat' split) <;> first | rfl | (exfalso; omega) | (congr 1; omega) | omega), rfl⟩)
        · refine zr_iload_n dMo_plain_37 rfl ?_
          refine zr_bipush (v := nI 57) dMo_plain_38 (by decide) ?_
          refine zr_icmp_gtN (tgt := 47) (by omega) (by omega) dMo_plain_40 (by decide) (fun h40 => ?_) (fun h40 => ?_)
          · refine zr_iconst (v := nI 0) dMo_plain_47 (by decide) ?_
            exact zr_ireturn dMo_plain_48 rfl rfl (⟨congrArg (fun x => some (Value.int x)) (by unfold wf_fold; (repeat' split) <;> first | rfl | (exfalso; omega) | (congr 1; omega) | omega), rfl⟩)
          · refine zr_iload_n dMo_plain_43 rfl ?_
            refine zr_goto (tgt := 48) dMo_plain_44 (by decide) ?_
            exact zr_ireturn dMo_plain_48 rfl rfl (⟨congrArg (fun x => some (Value.int x)) (by unfold wf_fold; (repeat' split) <;> first | rfl | (exfalso; omega) | (congr 1; omega) | omega), rfl⟩)
  · refine zr_iload_n dMo_plain_6 rfl ?_
    refine zr_bipush (v := nI 90) dMo_plain_7 (by decide) ?_
    refine zr_icmp_gtN (tgt := 19) (by omega) (by omega) dMo_plain_9 (by decide) (fun h9 => ?_) (fun h9 => ?_)
    · refine zr_iload_n dMo_plain_19 rfl ?_
      refine zr_bipush (v := nI 97) dMo_plain_20 (by decide) ?_
      refine zr_icmp_ltN (tgt := 31) (by omega) (by omega) dMo_plain_22 (by decide) (fun h22 => ?_) (fun h22 => ?_)
      · refine zr_iload_n dMo_plain_31 rfl ?_
        refine zr_bipush (v := nI 48) dMo_plain_32 (by decide) ?_
        refine zr_icmp_ltN (tgt := 47) (by omega) (by omega) dMo_plain_34 (by decide) (fun h34 => ?_) (fun h34 => ?_)
        · refine zr_iconst (v := nI 0) dMo_plain_47 (by decide) ?_
          exact zr_ireturn dMo_plain_48 rfl rfl (⟨congrArg (fun x => some (Value.int x)) (by unfold wf_fold; (repeat' split) <;> first | rfl | (exfalso; omega) | (congr 1; omega) | omega), rfl⟩)
        · refine zr_iload_n dMo_plain_37 rfl ?_
          refine zr_bipush (v := nI 57) dMo_plain_38 (by decide) ?_
          refine zr_icmp_gtN (tgt := 47) (by omega) (by omega) dMo_plain_40 (by decide) (fun h40 => ?_) (fun h40 => ?_)
          · refine zr_iconst (v := nI 0) dMo_plain_47 (by decide) ?_
            exact zr_ireturn dMo_plain_48 rfl rfl (⟨congrArg (fun x => some (Value.int x)) (by unfold wf_fold; (repeat' split) <;> first | rfl | (exfalso; omega) | (congr 1; omega) | omega), rfl⟩)
          · refine zr_iload_n dMo_plain_43 rfl ?_
            refine zr_goto (tgt := 48) dMo_plain_44 (by decide) ?_
            exact zr_ireturn dMo_plain_48 rfl rfl (⟨congrArg (fun x => some (Value.int x)) (by unfold wf_fold; (repeat' split) <;> first | rfl | (exfalso; omega) | (congr 1; omega) | omega), rfl⟩)
      · refine zr_iload_n dMo_plain_25 rfl ?_
        refine zr_bipush (v := nI 122) dMo_plain_26 (by decide) ?_
        refine zr_icmp_leN (tgt := 43) (by omega) (by omega) dMo_plain_28 (by decide) (fun h28 => ?_) (fun h28 => ?_)
        · refine zr_iload_n dMo_plain_43 rfl ?_
          refine zr_goto (tgt := 48) dMo_plain_44 (by decide) ?_
          exact zr_ireturn dMo_plain_48 rfl rfl (⟨congrArg (fun x => some (Value.int x)) (by unfold wf_fold; (repeat' split) <;> first | rfl | (exfalso; omega) | (congr 1; omega) | omega), rfl⟩)
        · refine zr_iload_n dMo_plain_31 rfl ?_
          refine zr_bipush (v := nI 48) dMo_plain_32 (by decide) ?_
          refine zr_icmp_ltN (tgt := 47) (by omega) (by omega) dMo_plain_34 (by decide) (fun h34 => ?_) (fun h34 => ?_)
          · refine zr_iconst (v := nI 0) dMo_plain_47 (by decide) ?_
            exact zr_ireturn dMo_plain_48 rfl rfl (⟨congrArg (fun x => some (Value.int x)) (by unfold wf_fold; (repeat' split) <;> first | rfl | (exfalso; omega) | (congr 1; omega) | omega), rfl⟩)
          · refine zr_iload_n dMo_plain_37 rfl ?_
            refine zr_bipush (v := nI 57) dMo_plain_38 (by decide) ?_
            refine zr_icmp_gtN (tgt := 47) (by omega) (by omega) dMo_plain_40 (by decide) (fun h40 => ?_) (fun h40 => ?_)
            · refine zr_iconst (v := nI 0) dMo_plain_47 (by decide) ?_
              exact zr_ireturn dMo_plain_48 rfl rfl (⟨congrArg (fun x => some (Value.int x)) (by unfold wf_fold; (repeat' split) <;> first | rfl | (exfalso; omega) | (congr 1; omega) | omega), rfl⟩)
            · refine zr_iload_n dMo_plain_43 rfl ?_
              refine zr_goto (tgt := 48) dMo_plain_44 (by decide) ?_
              exact zr_ireturn dMo_plain_48 rfl rfl (⟨congrArg (fun x => some (Value.int x)) (by unfold wf_fold; (repeat' split) <;> first | rfl | (exfalso; omega) | (congr 1; omega) | omega), rfl⟩)
    · refine zr_iload_n dMo_plain_12 rfl ?_
      refine zr_bipush (v := nI 32) dMo_plain_13 (by decide) ?_
      refine zr_iaddN dMo_plain_15 ?_
      refine zr_goto (tgt := 48) dMo_plain_16 (by decide) ?_
      exact zr_ireturn dMo_plain_48 rfl rfl (⟨congrArg (fun x => some (Value.int x)) (by unfold wf_fold; (repeat' split) <;> first | rfl | (exfalso; omega) | (congr 1; omega) | omega), rfl⟩)
theorem wt_run_le (x : Nat → Nat) (k : Nat) : (wt_of x k).2.2 ≤ k := by
  induction k with
  | zero => exact Nat.le_refl _
  | succ k ih =>
    rw [wt_of]
    unfold wt_step
    split
    · exact Nat.zero_le _
    · split
      · simp
      · split <;> (simp only; omega)
set_option maxHeartbeats 4000000 in
set_option maxRecDepth 100000 in
theorem c_Mo_read {G : zw_G} {c0 c1 c2 c3 c4 c5 c6 c7 c8 c9 c10 c11 c12 c13 c14 c15 c16 c17 c18 c19 c20 c21 c22 c23 c24 : zw_C} {n ty wo ch : Nat} {tx le la sz wh wt ma bk lf rt : Nat → Int32} {cu co wr : Nat → Int64} {r : zw_W} {x : Nat → Nat} (hty : ty ≤ 40) (hx : ∀ i, i < ty → tx i = nI (x i)) (hx16 : ∀ i, i < ty → x i < 65536) : zw_Met G Y_Mo_read 1 0 0 [.ref 26] (c0 :: c1 :: c2 :: c3 :: c4 :: c5 :: c6 :: c7 :: c8 :: c9 :: c10 :: c11 :: c12 :: c13 :: c14 :: c15 :: c16 :: c17 :: c18 :: c19 :: c20 :: c21 :: c22 :: c23 :: c24 :: zk_Mo n ty wo ch :: zk_I 40 tx :: zk_L 20 cu :: zk_I 160 le :: zk_I 64 la :: zk_I 64 sz :: zk_L 1280 co :: zk_I 24 wh :: zk_I 24 wt :: zk_I 24 ma :: zk_I 24 bk :: zk_L 480 wr :: zk_I 50 lf :: zk_I 50 rt :: r) (fun v w2 => v = none ∧ ∃ cu2 le2, w2 = (c0 :: c1 :: c2 :: c3 :: c4 :: c5 :: c6 :: c7 :: c8 :: c9 :: c10 :: c11 :: c12 :: c13 :: c14 :: c15 :: c16 :: c17 :: c18 :: c19 :: c20 :: c21 :: c22 :: c23 :: c24 :: zk_Mo n ty (wt_of x ty).1 ch :: zk_I 40 tx :: zk_L 20 cu2 :: zk_I 160 le2 :: zk_I 64 la :: zk_I 64 sz :: zk_L 1280 co :: zk_I 24 wh :: zk_I 24 wt :: zk_I 24 ma :: zk_I 24 bk :: zk_L 480 wr :: zk_I 50 lf :: zk_I 50 rt :: r) ∧ mr_ok (wt_of x ty) cu2 le2) := by
  have key2 : ∀ k, k ≤ ty → ∀ cu1 le1, mr_ok (wt_of x k) cu1 le1 → zw_Z G Y_Mo_read (zw_R 1 0 0) (fun _ => True) (zw_Q G 0 0 (fun v w2 => v = none ∧ ∃ cu2 le2, w2 = (c0 :: c1 :: c2 :: c3 :: c4 :: c5 :: c6 :: c7 :: c8 :: c9 :: c10 :: c11 :: c12 :: c13 :: c14 :: c15 :: c16 :: c17 :: c18 :: c19 :: c20 :: c21 :: c22 :: c23 :: c24 :: zk_Mo n ty (wt_of x ty).1 ch :: zk_I 40 tx :: zk_L 20 cu2 :: zk_I 160 le2 :: zk_I 64 la :: zk_I 64 sz :: zk_L 1280 co :: zk_I 24 wh :: zk_I 24 wt :: zk_I 24 ma :: zk_I 24 bk :: zk_L 480 wr :: zk_I 50 lf :: zk_I 50 rt :: r) ∧ mr_ok (wt_of x ty) cu2 le2)) 0 0 31 [some (.ref 26), some (.int (nI (wt_of x k).2.2)), some (.int (nI k)), none] [] (c0 :: c1 :: c2 :: c3 :: c4 :: c5 :: c6 :: c7 :: c8 :: c9 :: c10 :: c11 :: c12 :: c13 :: c14 :: c15 :: c16 :: c17 :: c18 :: c19 :: c20 :: c21 :: c22 :: c23 :: c24 :: zk_Mo n ty (wt_of x k).1 ch :: zk_I 40 tx :: zk_L 20 cu1 :: zk_I 160 le1 :: zk_I 64 la :: zk_I 64 sz :: zk_L 1280 co :: zk_I 24 wh :: zk_I 24 wt :: zk_I 24 ma :: zk_I 24 bk :: zk_L 480 wr :: zk_I 50 lf :: zk_I 50 rt :: r) := by
    refine wz_up ty (fun k hk ih => ?_) ?_
    · intro cu1 le1 hmr
      rcases hs : wt_of x k with ⟨wo1, Wd, ln⟩
      have hwk := wt_of_ok x k
      rw [hs] at hmr hwk
      obtain ⟨w1, w2, w3⟩ := hwk
      simp only at w1 w2 w3 ⊢
      have hln : ln ≤ k := by have := wt_run_le x k; rw [hs] at this; exact this
      have hf := wf_fold_lt (x k)
      refine zr_iload_n dMo_read_31 rfl ?_
      refine zr_aload_n dMo_read_32 rfl rfl ?_
      refine zr_getf g_Mo_54 dMo_read_33 rfl rfl ?_
      refine zr_icmp_geN (tgt := 143) (by omega) (by omega) dMo_read_36 (by decide) (fun h36 => ?_) (fun h36 => ?_)
      · exfalso; omega
      · refine zr_aload_n dMo_read_39 rfl rfl ?_
        refine zr_getf g_Mo_7 dMo_read_40 rfl rfl ?_
        refine zr_iload_n dMo_read_43 rfl ?_
        refine zr_iald dMo_read_44 rfl (by omega) (by decide) ?_
        refine zr_topI (hx k hk) ?_
        refine zr_invS (c_Mo_plain (hx16 k hk)) m_Mo_plain k_Mo_60 (s_Mo_plain) dMo_read_45 rfl (Nat.le_of_ble_eq_true rfl) (by decide) (Nat.le_of_ble_eq_true rfl) rfl (fun v w2 hp => ?_)
        obtain ⟨rfl, rfl⟩ := hp
        refine ⟨rfl, ?_⟩
        refine zr_istore_n dMo_read_48 (by decide) ?_
        refine zr_iload_n dMo_read_49 rfl ?_
        refine zr_if_neN (tgt := 58) (by omega) dMo_read_50 (by decide) (fun h50 => ?_) (fun h50 => ?_)
        · refine zr_iload_n dMo_read_58 rfl ?_
          refine zr_if_neN (tgt := 82) (by omega) dMo_read_59 (by decide) (fun h59 => ?_) (fun h59 => ?_)
          · rw [if_neg h59] at w1
            obtain ⟨w4, w5⟩ := w3 (by omega)
            refine zr_iload_n dMo_read_82 rfl ?_
            refine zr_bipush (v := nI 8) dMo_read_83 (by decide) ?_
            refine zr_icmp_geN (tgt := 134) (by omega) (by omega) dMo_read_85 (by decide) (fun h85 => ?_) (fun h85 => ?_)
            · rw [wt_next3 hs h50 h85] at ih
              refine zr_iinc (v := nI (ln + 1)) dMo_read_134 rfl (nI_1 _) (by decide) ?_
              refine zr_iinc (v := nI (k + 1)) dMo_read_137 rfl (nI_1 _) (by decide) ?_
              refine zr_goto (tgt := 31) dMo_read_140 (by decide) ?_
              first | exact zr_mask [true, true, true, false] (ih _ _ ⟨hmr.1, hmr.2.1, hmr.2.2⟩) | exact zr_mask [true, true, true, false] (ih _ _ (mr_ext hmr w4 (by omega) h85 w5))
            · rw [wt_next2 hs h50 h59 h85] at ih
              rw [if_pos h85] at w5
              refine zr_aload_n dMo_read_88 rfl rfl ?_
              refine zr_getf g_Mo_17 dMo_read_89 rfl rfl ?_
              refine zr_bipush (v := nI 8) dMo_read_92 (by decide) ?_
              refine zr_aload_n dMo_read_94 rfl rfl ?_
              refine zr_getf g_Mo_57 dMo_read_95 rfl rfl ?_
              refine zr_iconst (v := nI 1) dMo_read_98 (by decide) ?_
              refine zr_isubN (by omega) dMo_read_99 ?_
              refine zr_imulN dMo_read_100 ?_
              refine zr_iload_n dMo_read_101 rfl ?_
              refine zr_iaddN dMo_read_102 ?_
              refine zr_iload_n dMo_read_103 rfl ?_
              refine zr_iast dMo_read_104 rfl (by omega) (by decide) ?_
              refine zr_aload_n dMo_read_105 rfl rfl ?_
              refine zr_getf g_Mo_13 dMo_read_106 rfl rfl ?_
              refine zr_aload_n dMo_read_109 rfl rfl ?_
              refine zr_getf g_Mo_57 dMo_read_110 rfl rfl ?_
              refine zr_iconst (v := nI 1) dMo_read_113 (by decide) ?_
              refine zr_isubN (by omega) dMo_read_114 ?_
              refine zr_ldc2 n_Mo_64 dMo_read_115 ?_
              refine zr_aload_n dMo_read_118 rfl rfl ?_
              refine zr_getf g_Mo_13 dMo_read_119 rfl rfl ?_
              refine zr_aload_n dMo_read_122 rfl rfl ?_
              refine zr_getf g_Mo_57 dMo_read_123 rfl rfl ?_
              refine zr_iconst (v := nI 1) dMo_read_126 (by decide) ?_
              refine zr_isubN (by omega) dMo_read_127 ?_
              refine zr_lald dMo_read_128 rfl (by omega) (by decide) ?_
              refine zr_topL (hmr.1 (wo1 - 1) (by simp only; omega)) ?_
              refine zr_lmul dMo_read_129 ?_
              refine zr_topL (mr_128 _) ?_
              refine zr_iload_n dMo_read_130 rfl ?_
              refine zr_i2l dMo_read_131 (nI_l (by omega)) ?_
              refine zr_ladd dMo_read_132 ?_
              refine zr_topL (lN_add _ _) ?_
              refine zr_last dMo_read_133 rfl (by omega) (by decide) ?_
              refine zr_iinc (v := nI (ln + 1)) dMo_read_134 rfl (nI_1 _) (by decide) ?_
              refine zr_iinc (v := nI (k + 1)) dMo_read_137 rfl (nI_1 _) (by decide) ?_
              refine zr_goto (tgt := 31) dMo_read_140 (by decide) ?_
              first | exact zr_mask [true, true, true, false] (ih _ _ ⟨hmr.1, hmr.2.1, hmr.2.2⟩) | exact zr_mask [true, true, true, false] (ih _ _ (mr_ext hmr w4 (by omega) h85 w5))
          · rw [wt_next1 hs h50 h59] at ih
            subst h59
            rw [if_pos rfl] at w1
            refine zr_aload_n dMo_read_62 rfl rfl ?_
            refine zr_getf g_Mo_13 dMo_read_63 rfl rfl ?_
            refine zr_aload_n dMo_read_66 rfl rfl ?_
            refine zr_getf g_Mo_57 dMo_read_67 rfl rfl ?_
            refine zr_lconst (v := 0) dMo_read_70 (by decide) ?_
            refine zr_last dMo_read_71 rfl (by omega) (by decide) ?_
            refine zr_aload_n dMo_read_72 rfl rfl ?_
            refine zr_dup dMo_read_73 rfl ?_
            refine zr_getf g_Mo_57 dMo_read_74 rfl rfl ?_
            refine zr_iconst (v := nI 1) dMo_read_77 (by decide) ?_
            refine zr_iaddN dMo_read_78 ?_
            refine zr_putf f_Mo_57 dMo_read_79 rfl (Nat.le_of_ble_eq_true rfl) (fun _ => rfl) (fun _ => rfl) ?_
            refine zr_iload_n dMo_read_82 rfl ?_
            refine zr_bipush (v := nI 8) dMo_read_83 (by decide) ?_
            refine zr_icmp_geN (tgt := 134) (by omega) (by omega) dMo_read_85 (by decide) (fun h85 => ?_) (fun h85 => ?_)
            · exfalso; omega
            · refine zr_aload_n dMo_read_88 rfl rfl ?_
              refine zr_getf g_Mo_17 dMo_read_89 rfl rfl ?_
              refine zr_bipush (v := nI 8) dMo_read_92 (by decide) ?_
              refine zr_aload_n dMo_read_94 rfl rfl ?_
              refine zr_getf g_Mo_57 dMo_read_95 rfl rfl ?_
              refine zr_iconst (v := nI 1) dMo_read_98 (by decide) ?_
              refine zr_isubN (by omega) dMo_read_99 ?_
              refine zr_imulN dMo_read_100 ?_
              refine zr_iload_n dMo_read_101 rfl ?_
              refine zr_iaddN dMo_read_102 ?_
              refine zr_iload_n dMo_read_103 rfl ?_
              rw [Nat.add_sub_cancel]
              refine zr_iast dMo_read_104 rfl (by omega) (by decide) ?_
              refine zr_aload_n dMo_read_105 rfl rfl ?_
              refine zr_getf g_Mo_13 dMo_read_106 rfl rfl ?_
              refine zr_aload_n dMo_read_109 rfl rfl ?_
              refine zr_getf g_Mo_57 dMo_read_110 rfl rfl ?_
              refine zr_iconst (v := nI 1) dMo_read_113 (by decide) ?_
              refine zr_isubN (by omega) dMo_read_114 ?_
              refine zr_ldc2 n_Mo_64 dMo_read_115 ?_
              refine zr_aload_n dMo_read_118 rfl rfl ?_
              refine zr_getf g_Mo_13 dMo_read_119 rfl rfl ?_
              refine zr_aload_n dMo_read_122 rfl rfl ?_
              refine zr_getf g_Mo_57 dMo_read_123 rfl rfl ?_
              refine zr_iconst (v := nI 1) dMo_read_126 (by decide) ?_
              refine zr_isubN (by omega) dMo_read_127 ?_
              refine zr_lald dMo_read_128 rfl (by omega) (by decide) ?_
              refine zr_topL (show vp_updL cu1 wo1 0 (wo1 + 1 - 1) = lN 0 from by rw [Nat.add_sub_cancel]; exact zf_upL) ?_
              refine zr_lmul dMo_read_129 ?_
              refine zr_topL (mr_128 _) ?_
              refine zr_iload_n dMo_read_130 rfl ?_
              refine zr_i2l dMo_read_131 (nI_l (by omega)) ?_
              refine zr_ladd dMo_read_132 ?_
              refine zr_topL (lN_add _ _) ?_
              rw [Nat.add_sub_cancel]
              refine zr_last dMo_read_133 rfl (by omega) (by decide) ?_
              refine zr_iinc (v := nI 1) dMo_read_134 rfl (by decide) (by decide) ?_
              refine zr_iinc (v := nI (k + 1)) dMo_read_137 rfl (nI_1 _) (by decide) ?_
              refine zr_goto (tgt := 31) dMo_read_140 (by decide) ?_
              exact zr_mask [true, true, true, false] (ih _ _ (mr_new hmr (by omega)))
        · rw [wt_next0 hs h50] at ih
          refine zr_iconst (v := nI 0) dMo_read_53 (by decide) ?_
          refine zr_istore_n dMo_read_54 (by decide) ?_
          refine zr_goto (tgt := 137) dMo_read_55 (by decide) ?_
          refine zr_iinc (v := nI (_ + 1)) dMo_read_137 rfl (nI_1 _) (by decide) ?_
          refine zr_goto (tgt := 31) dMo_read_140 (by decide) ?_
          exact zr_mask [true, true, true, false] (ih _ _ ⟨hmr.1, hmr.2.1, hmr.2.2⟩)
    · intro cu1 le1 hmr
      refine zr_iload_n dMo_read_31 rfl ?_
      refine zr_aload_n dMo_read_32 rfl rfl ?_
      refine zr_getf g_Mo_54 dMo_read_33 rfl rfl ?_
      refine zr_icmp_geN (tgt := 143) (by omega) (by omega) dMo_read_36 (by decide) (fun h36 => ?_) (fun h36 => ?_)
      · exact zr_return dMo_read_143 rfl (⟨rfl, cu1, le1, rfl, hmr⟩)
      · exfalso; omega
  have key1 : ∀ k, k ≤ 160 → zw_Z G Y_Mo_read (zw_R 1 0 0) (fun _ => True) (zw_Q G 0 0 (fun v w2 => v = none ∧ ∃ cu2 le2, w2 = (c0 :: c1 :: c2 :: c3 :: c4 :: c5 :: c6 :: c7 :: c8 :: c9 :: c10 :: c11 :: c12 :: c13 :: c14 :: c15 :: c16 :: c17 :: c18 :: c19 :: c20 :: c21 :: c22 :: c23 :: c24 :: zk_Mo n ty (wt_of x ty).1 ch :: zk_I 40 tx :: zk_L 20 cu2 :: zk_I 160 le2 :: zk_I 64 la :: zk_I 64 sz :: zk_L 1280 co :: zk_I 24 wh :: zk_I 24 wt :: zk_I 24 ma :: zk_I 24 bk :: zk_L 480 wr :: zk_I 50 lf :: zk_I 50 rt :: r) ∧ mr_ok (wt_of x ty) cu2 le2)) 0 0 9 [some (.ref 26), some (.int (nI 0)), some (.int (nI k)), none] [] (c0 :: c1 :: c2 :: c3 :: c4 :: c5 :: c6 :: c7 :: c8 :: c9 :: c10 :: c11 :: c12 :: c13 :: c14 :: c15 :: c16 :: c17 :: c18 :: c19 :: c20 :: c21 :: c22 :: c23 :: c24 :: zk_Mo n ty 0 ch :: zk_I 40 tx :: zk_L 20 cu :: zk_I 160 (fun j => if j < k then nI 0 else le j) :: zk_I 64 la :: zk_I 64 sz :: zk_L 1280 co :: zk_I 24 wh :: zk_I 24 wt :: zk_I 24 ma :: zk_I 24 bk :: zk_L 480 wr :: zk_I 50 lf :: zk_I 50 rt :: r) := by
    refine wz_up 160 (fun k hk ih => ?_) ?_
    · refine zr_iload_n dMo_read_9 rfl ?_
      refine zr_sipush (v := nI 160) dMo_read_10 (by decide) ?_
      refine zr_icmp_geN (tgt := 29) (by omega) (by omega) dMo_read_13 (by decide) (fun h13 => ?_) (fun h13 => ?_)
      · exfalso; omega
      · refine zr_aload_n dMo_read_16 rfl rfl ?_
        refine zr_getf g_Mo_17 dMo_read_17 rfl rfl ?_
        refine zr_iload_n dMo_read_20 rfl ?_
        refine zr_iconst (v := nI 0) dMo_read_21 (by decide) ?_
        refine zr_iast dMo_read_22 rfl (hk) (by decide) ?_
        refine zr_wld (w2 := (c0 :: c1 :: c2 :: c3 :: c4 :: c5 :: c6 :: c7 :: c8 :: c9 :: c10 :: c11 :: c12 :: c13 :: c14 :: c15 :: c16 :: c17 :: c18 :: c19 :: c20 :: c21 :: c22 :: c23 :: c24 :: zk_Mo n ty 0 ch :: zk_I 40 tx :: zk_L 20 cu :: zk_I 160 (fun j => if j < k + 1 then nI 0 else le j) :: zk_I 64 la :: zk_I 64 sz :: zk_L 1280 co :: zk_I 24 wh :: zk_I 24 wt :: zk_I 24 ma :: zk_I 24 bk :: zk_L 480 wr :: zk_I 50 lf :: zk_I 50 rt :: r)) (by rw [← zf_upI (d := fun _ => nI 0)]; rfl) ?_
        refine zr_iinc (v := nI (k + 1)) dMo_read_23 rfl (nI_1 _) (by decide) ?_
        refine zr_goto (tgt := 9) dMo_read_26 (by decide) ?_
        exact ih
    · refine zr_iload_n dMo_read_9 rfl ?_
      refine zr_sipush (v := nI 160) dMo_read_10 (by decide) ?_
      refine zr_icmp_geN (tgt := 29) (by omega) (by omega) dMo_read_13 (by decide) (fun h13 => ?_) (fun h13 => ?_)
      · refine zr_iconst (v := nI 0) dMo_read_29 (by decide) ?_
        refine zr_istore_n dMo_read_30 (by decide) ?_
        exact key2 0 (Nat.zero_le ty) _ _ ⟨fun i hi => absurd hi (Nat.not_lt_zero i), fun i hi => absurd hi (Nat.not_lt_zero i), fun q _ hq => if_pos hq⟩
      · exfalso; omega
  show zw_Z G Y_Mo_read _ _ _ 0 0 0 [some (.ref 26), none, none, none] [] _
  refine zr_aload_n dMo_read_0 rfl rfl ?_
  refine zr_iconst (v := nI 0) dMo_read_1 (by decide) ?_
  refine zr_putf f_Mo_57 dMo_read_2 rfl (Nat.le_of_ble_eq_true rfl) (fun _ => rfl) (fun _ => rfl) ?_
  refine zr_iconst (v := nI 0) dMo_read_5 (by decide) ?_
  refine zr_istore_n dMo_read_6 (by decide) ?_
  refine zr_iconst (v := nI 0) dMo_read_7 (by decide) ?_
  refine zr_istore_n dMo_read_8 (by decide) ?_
  refine zr_wld (w2 := (c0 :: c1 :: c2 :: c3 :: c4 :: c5 :: c6 :: c7 :: c8 :: c9 :: c10 :: c11 :: c12 :: c13 :: c14 :: c15 :: c16 :: c17 :: c18 :: c19 :: c20 :: c21 :: c22 :: c23 :: c24 :: zk_Mo n ty 0 ch :: zk_I 40 tx :: zk_L 20 cu :: zk_I 160 (fun j => if j < 0 then nI 0 else le j) :: zk_I 64 la :: zk_I 64 sz :: zk_L 1280 co :: zk_I 24 wh :: zk_I 24 wt :: zk_I 24 ma :: zk_I 24 bk :: zk_L 480 wr :: zk_I 50 lf :: zk_I 50 rt :: r)) (by rw [zf_if0 (d := fun _ => nI 0)]; rfl) ?_
  exact key1 0 (Nat.zero_le 160)
set_option maxHeartbeats 4000000 in
set_option maxRecDepth 100000 in
theorem c_Mo_words {G : zw_G} {c0 c1 c2 c3 c4 c5 c6 c7 c8 c9 c10 c11 c12 c13 c14 c15 c16 c17 c18 c19 c20 c21 c22 c23 c24 : zw_C} {n ty wo ch : Nat} {tx le la sz wh wt ma bk lf rt : Nat → Int32} {cu co wr : Nat → Int64} {r : zw_W} {x : Nat → Nat} (hty : ty ≤ 40) (hx : ∀ i, i < ty → tx i = nI (x i)) (hx16 : ∀ i, i < ty → x i < 65536) : zw_Met G Y_Mo_words 2 0 0 [.ref 26] (c0 :: c1 :: c2 :: c3 :: c4 :: c5 :: c6 :: c7 :: c8 :: c9 :: c10 :: c11 :: c12 :: c13 :: c14 :: c15 :: c16 :: c17 :: c18 :: c19 :: c20 :: c21 :: c22 :: c23 :: c24 :: zk_Mo n ty wo ch :: zk_I 40 tx :: zk_L 20 cu :: zk_I 160 le :: zk_I 64 la :: zk_I 64 sz :: zk_L 1280 co :: zk_I 24 wh :: zk_I 24 wt :: zk_I 24 ma :: zk_I 24 bk :: zk_L 480 wr :: zk_I 50 lf :: zk_I 50 rt :: r) (fun v w2 => v = some (.int (nI (wt_of x ty).1)) ∧ ∃ wo2 cu2 le2, w2 = (c0 :: c1 :: c2 :: c3 :: c4 :: c5 :: c6 :: c7 :: c8 :: c9 :: c10 :: c11 :: c12 :: c13 :: c14 :: c15 :: c16 :: c17 :: c18 :: c19 :: c20 :: c21 :: c22 :: c23 :: c24 :: zk_Mo n ty wo2 ch :: zk_I 40 tx :: zk_L 20 cu2 :: zk_I 160 le2 :: zk_I 64 la :: zk_I 64 sz :: zk_L 1280 co :: zk_I 24 wh :: zk_I 24 wt :: zk_I 24 ma :: zk_I 24 bk :: zk_L 480 wr :: zk_I 50 lf :: zk_I 50 rt :: r)) := by
  show zw_Z G Y_Mo_words _ _ _ 0 0 0 [some (.ref 26)] [] _
  refine zr_aload_n dMo_words_0 rfl rfl ?_
  refine zr_invV (c_Mo_read hty hx hx16) m_Mo_read k_Mo_66 v_Mo_read rfl rfl dMo_words_1 rfl (Nat.le_of_ble_eq_true rfl) (by decide) (Nat.le_of_ble_eq_true rfl) rfl (fun v w2 hp => ?_)
  obtain ⟨rfl, cu2, le2, rfl, hmr⟩ := hp
  refine ⟨rfl, ?_⟩
  refine zr_aload_n dMo_words_4 rfl rfl ?_
  refine zr_getf g_Mo_57 dMo_words_5 rfl rfl ?_
  exact zr_ireturn dMo_words_8 rfl rfl (⟨rfl, _, cu2, le2, rfl⟩)
def mo_letter (s : wt_S) (k i : Int32) : Int32 := if (¬ k < 0 ∧ k < nI s.1) ∧ (¬ i < 0 ∧ i < nI 8) then zf_code ((s.2.1 k.toNatClampNeg).getD i.toNatClampNeg 0) else -1
theorem zf_le7 {i : Int32} (h : ¬ nI 7 < i) : i < nI 8 := by
  have h1 := Int32.le_iff_toInt_le.mp (Int32.not_lt.mp h)
  rw [nI_toInt (by decide)] at h1
  apply Int32.lt_iff_toInt_lt.mpr
  rw [nI_toInt (by decide)]
  omega
theorem zf_gt7 {i : Int32} (h : nI 7 < i) : ¬ i < nI 8 := fun q => by
  have h1 := Int32.lt_iff_toInt_lt.mp h
  have h2 := Int32.lt_iff_toInt_lt.mp q
  rw [nI_toInt (by decide)] at h1 h2
  omega
theorem mo_getD {l : List Nat} (h : ∀ k ∈ l, 0 < k ∧ k < 128) (j : Nat) : l.getD j 0 < 128 := by
  rw [List.getD_eq_getElem?_getD]
  cases e : l[j]? with
  | none => simp
  | some v => exact (h v (List.mem_of_getElem? e)).2
set_option maxHeartbeats 4000000 in
set_option maxRecDepth 100000 in
theorem c_Mo_letter {G : zw_G} {c0 c1 c2 c3 c4 c5 c6 c7 c8 c9 c10 c11 c12 c13 c14 c15 c16 c17 c18 c19 c20 c21 c22 c23 c24 : zw_C} {n ty wo ch : Nat} {tx le la sz wh wt ma bk lf rt : Nat → Int32} {cu co wr : Nat → Int64} {r : zw_W} {x : Nat → Nat} (hty : ty ≤ 40) (hx : ∀ i, i < ty → tx i = nI (x i)) (hx16 : ∀ i, i < ty → x i < 65536) {k i : Int32} : zw_Met G Y_Mo_letter 2 0 0 [.ref 26, .int k, .int i] (c0 :: c1 :: c2 :: c3 :: c4 :: c5 :: c6 :: c7 :: c8 :: c9 :: c10 :: c11 :: c12 :: c13 :: c14 :: c15 :: c16 :: c17 :: c18 :: c19 :: c20 :: c21 :: c22 :: c23 :: c24 :: zk_Mo n ty wo ch :: zk_I 40 tx :: zk_L 20 cu :: zk_I 160 le :: zk_I 64 la :: zk_I 64 sz :: zk_L 1280 co :: zk_I 24 wh :: zk_I 24 wt :: zk_I 24 ma :: zk_I 24 bk :: zk_L 480 wr :: zk_I 50 lf :: zk_I 50 rt :: r) (fun v w2 => v = some (.int (mo_letter (wt_of x ty) k i)) ∧ ∃ wo2 cu2 le2, w2 = (c0 :: c1 :: c2 :: c3 :: c4 :: c5 :: c6 :: c7 :: c8 :: c9 :: c10 :: c11 :: c12 :: c13 :: c14 :: c15 :: c16 :: c17 :: c18 :: c19 :: c20 :: c21 :: c22 :: c23 :: c24 :: zk_Mo n ty wo2 ch :: zk_I 40 tx :: zk_L 20 cu2 :: zk_I 160 le2 :: zk_I 64 la :: zk_I 64 sz :: zk_L 1280 co :: zk_I 24 wh :: zk_I 24 wt :: zk_I 24 ma :: zk_I 24 bk :: zk_L 480 wr :: zk_I 50 lf :: zk_I 50 rt :: r)) := by
  show zw_Z G Y_Mo_letter _ _ _ 0 0 0 [some (.ref 26), some (.int k), some (.int i)] [] _
  refine zr_aload_n dMo_letter_0 rfl rfl ?_
  refine zr_invV (c_Mo_read hty hx hx16) m_Mo_read k_Mo_66 v_Mo_read rfl rfl dMo_letter_1 rfl (Nat.le_of_ble_eq_true rfl) (by decide) (Nat.le_of_ble_eq_true rfl) rfl (fun v w2 hp => ?_)
  obtain ⟨rfl, cu2, le2, rfl, hmr⟩ := hp
  refine ⟨rfl, ?_⟩
  refine zr_iload_n dMo_letter_4 rfl ?_
  refine zr_if_lt (tgt := 40) dMo_letter_5 (by decide) (fun h5 => ?_) (fun h5 => ?_)
  · have hv : mo_letter (wt_of x ty) k i = -1 := if_neg (fun q => q.1.1 h5)
    refine zr_iconst (v := (-1)) dMo_letter_40 (by decide) ?_
    exact zr_ireturn dMo_letter_41 rfl rfl (⟨congrArg (fun x => some (Value.int x)) hv.symm, _, cu2, le2, rfl⟩)
  · refine zr_iload_n dMo_letter_8 rfl ?_
    refine zr_aload_n dMo_letter_9 rfl rfl ?_
    refine zr_getf g_Mo_57 dMo_letter_10 rfl rfl ?_
    refine zr_icmp_ge (tgt := 40) dMo_letter_13 (by decide) (fun h13 => ?_) (fun h13 => ?_)
    · have hv : mo_letter (wt_of x ty) k i = -1 := if_neg (fun q => Int32.not_le.mpr q.1.2 h13)
      refine zr_iconst (v := (-1)) dMo_letter_40 (by decide) ?_
      exact zr_ireturn dMo_letter_41 rfl rfl (⟨congrArg (fun x => some (Value.int x)) hv.symm, _, cu2, le2, rfl⟩)
    · obtain ⟨jk, hjk, rfl⟩ := zf_rng (by have := wt_of_le x hty; omega) h5 (Int32.not_le.mp h13)
      refine zr_iload_n dMo_letter_16 rfl ?_
      refine zr_if_lt (tgt := 40) dMo_letter_17 (by decide) (fun h17 => ?_) (fun h17 => ?_)
      · have hv : mo_letter (wt_of x ty) (nI jk) i = -1 := if_neg (fun q => q.2.1 h17)
        refine zr_iconst (v := (-1)) dMo_letter_40 (by decide) ?_
        exact zr_ireturn dMo_letter_41 rfl rfl (⟨congrArg (fun x => some (Value.int x)) hv.symm, _, cu2, le2, rfl⟩)
      · refine zr_iload_n dMo_letter_20 rfl ?_
        refine zr_bipush (v := nI 7) dMo_letter_21 (by decide) ?_
        refine zr_icmp_gt (tgt := 40) dMo_letter_23 (by decide) (fun h23 => ?_) (fun h23 => ?_)
        · have hv : mo_letter (wt_of x ty) (nI jk) i = -1 := if_neg (fun q => zf_gt7 h23 q.2.2)
          refine zr_iconst (v := (-1)) dMo_letter_40 (by decide) ?_
          exact zr_ireturn dMo_letter_41 rfl rfl (⟨congrArg (fun x => some (Value.int x)) hv.symm, _, cu2, le2, rfl⟩)
        · have h8 : i < nI 8 := zf_le7 h23
          obtain ⟨ji, hji, rfl⟩ := zf_rng (by decide) h17 h8
          have hw20 := wt_of_le x hty
          have hv0 : mo_letter (wt_of x ty) (nI jk) (nI ji) = zf_code (((wt_of x ty).2.1 jk).getD ji 0) := (if_pos ⟨⟨h5, Int32.not_le.mp h13⟩, h17, h8⟩).trans (by rw [nI_clamp (by omega), nI_clamp (by omega)])
          refine zr_aload_n dMo_letter_26 rfl rfl ?_
          refine zr_getf g_Mo_17 dMo_letter_27 rfl rfl ?_
          refine zr_bipush (v := nI 8) dMo_letter_30 (by decide) ?_
          refine zr_iload_n dMo_letter_32 rfl ?_
          refine zr_imulN dMo_letter_33 ?_
          refine zr_iload_n dMo_letter_34 rfl ?_
          refine zr_iaddN dMo_letter_35 ?_
          refine zr_iald dMo_letter_36 rfl (by omega) (by decide) ?_
          refine zr_topI (hmr.2.1 jk hjk ji (by omega)) ?_
          refine zr_if_neN (tgt := 42) (by have := mo_getD (fun q hq => ((wt_of_ok x ty).2.1 jk hjk).2.2 q hq) ji; omega) dMo_letter_37 (by decide) (fun h37 => ?_) (fun h37 => ?_)
          · have hv : mo_letter (wt_of x ty) (nI jk) (nI ji) = nI _ := hv0.trans (if_neg h37)
            refine zr_aload_n dMo_letter_42 rfl rfl ?_
            refine zr_getf g_Mo_17 dMo_letter_43 rfl rfl ?_
            refine zr_bipush (v := nI 8) dMo_letter_46 (by decide) ?_
            refine zr_iload_n dMo_letter_48 rfl ?_
            refine zr_imulN dMo_letter_49 ?_
            refine zr_iload_n dMo_letter_50 rfl ?_
            refine zr_iaddN dMo_letter_51 ?_
            refine zr_iald dMo_letter_52 rfl (by omega) (by decide) ?_
            refine zr_topI (hmr.2.1 jk hjk ji (by omega)) ?_
            exact zr_ireturn dMo_letter_53 rfl rfl (⟨congrArg (fun x => some (Value.int x)) hv.symm, _, cu2, le2, rfl⟩)
          · have hv : mo_letter (wt_of x ty) (nI jk) (nI ji) = -1 := hv0.trans (if_pos h37)
            refine zr_iconst (v := (-1)) dMo_letter_40 (by decide) ?_
            exact zr_ireturn dMo_letter_41 rfl rfl (⟨congrArg (fun x => some (Value.int x)) hv.symm, _, cu2, le2, rfl⟩)
end
section
/-! the reference: labels, sizes, contents; the log -/
theorem mo_cpyI {f g : Nat → Int32} {sp dp k : Nat} : upd (va_cpy f g sp dp k) (dp + k) (f (sp + k)) = va_cpy f g sp dp (k + 1) := by
  funext j
  unfold upd va_cpy
  by_cases h : j = dp + k
  · rw [if_pos h, if_pos (by omega), h, Nat.add_sub_cancel_left]
  · rw [if_neg h]
    by_cases h2 : dp ≤ j ∧ j < dp + k
    · rw [if_pos h2, if_pos (by omega)]
    · rw [if_neg h2, if_neg (by omega)]
theorem mo_cpyL {f g : Nat → Int64} {sp dp k : Nat} : vp_updL (va_cpy f g sp dp k) (dp + k) (f (sp + k)) = va_cpy f g sp dp (k + 1) := by
  funext j
  unfold vp_updL va_cpy
  by_cases h : j = dp + k
  · rw [if_pos h, if_pos (by omega), h, Nat.add_sub_cancel_left]
  · rw [if_neg h]
    by_cases h2 : dp ≤ j ∧ j < dp + k
    · rw [if_pos h2, if_pos (by omega)]
    · rw [if_neg h2, if_neg (by omega)]
theorem mo_cpy0 {α : Type} {f g : Nat → α} {sp dp : Nat} : va_cpy f g sp dp 0 = g := by
  funext j
  exact if_neg (by omega)
def mo_size (L : Nat → Nat) (n : Nat) : Nat := wn_sum (fun id => if L id = 0 then 0 else 1) n
def mo_sum (L : Nat → Nat) (c : Nat) (v : Nat → Nat) (n : Nat) : Nat := wn_sum (fun id => if L id = c + 1 then v id else 0) n
theorem mo_size_le {L : Nat → Nat} {n : Nat} : mo_size L n ≤ n := by
  have := wn_sum_le (h := fun id => if L id = 0 then 0 else 1) (b := 1) (n := n) (fun i _ => by split <;> omega)
  unfold mo_size
  omega
theorem mo_size_0 {L : Nat → Nat} {k : Nat} (h : L k = 0) : mo_size L (k + 1) = mo_size L k := by unfold mo_size; rw [wn_sum, if_pos h, Nat.add_zero]
theorem mo_size_1 {L : Nat → Nat} {k : Nat} (h : ¬ L k = 0) : mo_size L (k + 1) = mo_size L k + 1 := by unfold mo_size; rw [wn_sum, if_neg h]
theorem mo_sum_0 {L v : Nat → Nat} {c k : Nat} (h : ¬ L k = c + 1) : mo_sum L c v (k + 1) = mo_sum L c v k := by unfold mo_sum; rw [wn_sum, if_neg h, Nat.add_zero]
theorem mo_sum_1 {L v : Nat → Nat} {c k : Nat} (h : L k = c + 1) : mo_sum L c v (k + 1) = mo_sum L c v k + v k := by unfold mo_sum; rw [wn_sum, if_pos h]
def mo_co (li ln : Nat → Nat) (wr co : Nat → Int64) : Nat → Nat → Int64
  | 0 => co
  | k + 1 => va_cpy wr (mo_co li ln wr co k) (20 * k) (20 * li k) (ln k)
theorem mo_le31 {i : Int32} (h : ¬ nI 31 < i) : i < nI 32 := by
  have h1 := Int32.le_iff_toInt_le.mp (Int32.not_lt.mp h)
  rw [nI_toInt (by decide)] at h1
  apply Int32.lt_iff_toInt_lt.mpr
  rw [nI_toInt (by decide)]
  omega
theorem mo_gt31 {i : Int32} (h : nI 31 < i) : ¬ i < nI 32 := fun q => by
  have h1 := Int32.lt_iff_toInt_lt.mp h
  have h2 := Int32.lt_iff_toInt_lt.mp q
  rw [nI_toInt (by decide)] at h1 h2
  omega
set_option maxHeartbeats 4000000 in
set_option maxRecDepth 100000 in
theorem c_Mo_isId {G : zw_G} {w : zw_W} {x : Int32} : zw_Met G Y_Mo_isId 0 0 0 [.int x] (w) (zw_is (some (.int (zw_b (¬ x < 0 ∧ x < nI 32)))) w) := by
  show zw_Z G Y_Mo_isId _ _ _ 0 0 0 [some (.int x)] [] _
  refine zr_iload_n dMo_isId_0 rfl ?_
  refine zr_if_lt (tgt := 14) dMo_isId_1 (by decide) (fun h1 => ?_) (fun h1 => ?_)
  · have hb : zw_b (¬ x < 0 ∧ x < nI 32) = 0 := zw_b0 (fun q => q.1 h1)
    refine zr_iconst (v := nI 0) dMo_isId_14 (by decide) ?_
    exact zr_ireturn dMo_isId_15 rfl rfl (⟨congrArg (fun x => some (Value.int x)) hb.symm, rfl⟩)
  · refine zr_iload_n dMo_isId_4 rfl ?_
    refine zr_bipush (v := nI 31) dMo_isId_5 (by decide) ?_
    refine zr_icmp_gt (tgt := 14) dMo_isId_7 (by decide) (fun h7 => ?_) (fun h7 => ?_)
    · have hb : zw_b (¬ x < 0 ∧ x < nI 32) = 0 := zw_b0 (fun q => mo_gt31 h7 q.2)
      refine zr_iconst (v := nI 0) dMo_isId_14 (by decide) ?_
      exact zr_ireturn dMo_isId_15 rfl rfl (⟨congrArg (fun x => some (Value.int x)) hb.symm, rfl⟩)
    · have hb : zw_b (¬ x < 0 ∧ x < nI 32) = 1 := zw_b1 ⟨h1, mo_le31 h7⟩
      refine zr_iconst (v := nI 1) dMo_isId_10 (by decide) ?_
      refine zr_goto (tgt := 15) dMo_isId_11 (by decide) ?_
      exact zr_ireturn dMo_isId_15 rfl rfl (⟨congrArg (fun x => some (Value.int x)) hb.symm, rfl⟩)
set_option maxHeartbeats 4000000 in
set_option maxRecDepth 100000 in
theorem c_Mo_isClass {G : zw_G} {w : zw_W} {x : Int32} {i n : Nat} {fs : List Value} (hi : w[i]? = some (.inr (7, .int (nI n) :: fs))) : zw_Met G Y_Mo_isClass 0 0 0 [.ref (i + 1), .int x] (w) (zw_is (some (.int (zw_b (¬ x < 0 ∧ x < nI n)))) w) := by
  show zw_Z G Y_Mo_isClass _ _ _ 0 0 0 [some (.ref (i + 1)), some (.int x)] [] _
  refine zr_iload_n dMo_isClass_0 rfl ?_
  refine zr_if_lt (tgt := 16) dMo_isClass_1 (by decide) (fun h1 => ?_) (fun h1 => ?_)
  · have hb : zw_b (¬ x < 0 ∧ x < nI n) = 0 := zw_b0 (fun q => q.1 h1)
    refine zr_iconst (v := nI 0) dMo_isClass_16 (by decide) ?_
    exact zr_ireturn dMo_isClass_17 rfl rfl (⟨congrArg (fun x => some (Value.int x)) hb.symm, rfl⟩)
  · refine zr_iload_n dMo_isClass_4 rfl ?_
    refine zr_aload_n dMo_isClass_5 rfl rfl ?_
    refine zr_getf g_Mo_50 dMo_isClass_6 hi rfl ?_
    refine zr_icmp_ge (tgt := 16) dMo_isClass_9 (by decide) (fun h9 => ?_) (fun h9 => ?_)
    · have hb : zw_b (¬ x < 0 ∧ x < nI n) = 0 := zw_b0 (fun q => Int32.not_le.mpr q.2 h9)
      refine zr_iconst (v := nI 0) dMo_isClass_16 (by decide) ?_
      exact zr_ireturn dMo_isClass_17 rfl rfl (⟨congrArg (fun x => some (Value.int x)) hb.symm, rfl⟩)
    · have hb : zw_b (¬ x < 0 ∧ x < nI n) = 1 := zw_b1 ⟨h1, Int32.not_le.mp h9⟩
      refine zr_iconst (v := nI 1) dMo_isClass_12 (by decide) ?_
      refine zr_goto (tgt := 17) dMo_isClass_13 (by decide) ?_
      exact zr_ireturn dMo_isClass_17 rfl rfl (⟨congrArg (fun x => some (Value.int x)) hb.symm, rfl⟩)
set_option maxHeartbeats 4000000 in
set_option maxRecDepth 100000 in
theorem c_Mo_inForce {G : zw_G} {c0 c1 c2 c3 c4 c5 c6 c7 c8 c9 c10 c11 c12 c13 c14 c15 c16 c17 c18 c19 c20 c21 c22 c23 c24 : zw_C} {n ty wo ch : Nat} {tx le la sz wh wt ma bk lf rt : Nat → Int32} {cu co wr : Nat → Int64} {r : zw_W} {L : Nat → Nat} (hla : ∀ i, i < 64 → la i = nI (L i) ∧ L i < 1000) : zw_Met G Y_Mo_inForce 0 0 0 [.ref 26] (c0 :: c1 :: c2 :: c3 :: c4 :: c5 :: c6 :: c7 :: c8 :: c9 :: c10 :: c11 :: c12 :: c13 :: c14 :: c15 :: c16 :: c17 :: c18 :: c19 :: c20 :: c21 :: c22 :: c23 :: c24 :: zk_Mo n ty wo ch :: zk_I 40 tx :: zk_L 20 cu :: zk_I 160 le :: zk_I 64 la :: zk_I 64 sz :: zk_L 1280 co :: zk_I 24 wh :: zk_I 24 wt :: zk_I 24 ma :: zk_I 24 bk :: zk_L 480 wr :: zk_I 50 lf :: zk_I 50 rt :: r) (zw_is (some (.int (nI (mo_size L 32)))) (c0 :: c1 :: c2 :: c3 :: c4 :: c5 :: c6 :: c7 :: c8 :: c9 :: c10 :: c11 :: c12 :: c13 :: c14 :: c15 :: c16 :: c17 :: c18 :: c19 :: c20 :: c21 :: c22 :: c23 :: c24 :: zk_Mo n ty wo ch :: zk_I 40 tx :: zk_L 20 cu :: zk_I 160 le :: zk_I 64 la :: zk_I 64 sz :: zk_L 1280 co :: zk_I 24 wh :: zk_I 24 wt :: zk_I 24 ma :: zk_I 24 bk :: zk_L 480 wr :: zk_I 50 lf :: zk_I 50 rt :: r)) := by
  have key : ∀ k, k ≤ 32 → zw_Z G Y_Mo_inForce (zw_R 0 0 0) (fun _ => True) (zw_Q G 0 0 (zw_is (some (.int (nI (mo_size L 32)))) (c0 :: c1 :: c2 :: c3 :: c4 :: c5 :: c6 :: c7 :: c8 :: c9 :: c10 :: c11 :: c12 :: c13 :: c14 :: c15 :: c16 :: c17 :: c18 :: c19 :: c20 :: c21 :: c22 :: c23 :: c24 :: zk_Mo n ty wo ch :: zk_I 40 tx :: zk_L 20 cu :: zk_I 160 le :: zk_I 64 la :: zk_I 64 sz :: zk_L 1280 co :: zk_I 24 wh :: zk_I 24 wt :: zk_I 24 ma :: zk_I 24 bk :: zk_L 480 wr :: zk_I 50 lf :: zk_I 50 rt :: r))) 0 0 4 [some (.ref 26), some (.int (nI (mo_size L k))), some (.int (nI k))] [] (c0 :: c1 :: c2 :: c3 :: c4 :: c5 :: c6 :: c7 :: c8 :: c9 :: c10 :: c11 :: c12 :: c13 :: c14 :: c15 :: c16 :: c17 :: c18 :: c19 :: c20 :: c21 :: c22 :: c23 :: c24 :: zk_Mo n ty wo ch :: zk_I 40 tx :: zk_L 20 cu :: zk_I 160 le :: zk_I 64 la :: zk_I 64 sz :: zk_L 1280 co :: zk_I 24 wh :: zk_I 24 wt :: zk_I 24 ma :: zk_I 24 bk :: zk_L 480 wr :: zk_I 50 lf :: zk_I 50 rt :: r) := by
    refine wz_up 32 (fun k hk ih => ?_) ?_
    · refine zr_iload_n dMo_inForce_4 rfl ?_
      refine zr_bipush (v := nI 32) dMo_inForce_5 (by decide) ?_
      refine zr_icmp_geN (tgt := 33) (by omega) (by omega) dMo_inForce_7 (by decide) (fun h7 => ?_) (fun h7 => ?_)
      · exfalso; omega
      · refine zr_aload_n dMo_inForce_10 rfl rfl ?_
        refine zr_getf g_Mo_20 dMo_inForce_11 rfl rfl ?_
        refine zr_iload_n dMo_inForce_14 rfl ?_
        refine zr_iald dMo_inForce_15 rfl (by omega) (by decide) ?_
        refine zr_topI (hla k (by omega)).1 ?_
        refine zr_if_leN (tgt := 25) (by have := (hla k (by omega)).2; omega) dMo_inForce_16 (by decide) (fun h16 => ?_) (fun h16 => ?_)
        · rw [mo_size_0 h16] at ih
          refine zr_iload_n dMo_inForce_25 rfl ?_
          refine zr_istore_n dMo_inForce_26 (by decide) ?_
          refine zr_iinc (v := nI (k + 1)) dMo_inForce_27 rfl (nI_1 _) (by decide) ?_
          refine zr_goto (tgt := 4) dMo_inForce_30 (by decide) ?_
          exact ih
        · rw [mo_size_1 (k := k) (by omega)] at ih
          refine zr_iload_n dMo_inForce_19 rfl ?_
          refine zr_iconst (v := nI 1) dMo_inForce_20 (by decide) ?_
          refine zr_iaddN dMo_inForce_21 ?_
          refine zr_goto (tgt := 26) dMo_inForce_22 (by decide) ?_
          refine zr_istore_n dMo_inForce_26 (by decide) ?_
          refine zr_iinc (v := nI (k + 1)) dMo_inForce_27 rfl (nI_1 _) (by decide) ?_
          refine zr_goto (tgt := 4) dMo_inForce_30 (by decide) ?_
          exact ih
    · refine zr_iload_n dMo_inForce_4 rfl ?_
      refine zr_bipush (v := nI 32) dMo_inForce_5 (by decide) ?_
      refine zr_icmp_geN (tgt := 33) (by omega) (by omega) dMo_inForce_7 (by decide) (fun h7 => ?_) (fun h7 => ?_)
      · refine zr_iload_n dMo_inForce_33 rfl ?_
        exact zr_ireturn dMo_inForce_34 rfl rfl (⟨rfl, rfl⟩)
      · exfalso; omega
  show zw_Z G Y_Mo_inForce _ _ _ 0 0 0 [some (.ref 26), none, none] [] _
  refine zr_iconst (v := nI 0) dMo_inForce_0 (by decide) ?_
  refine zr_istore_n dMo_inForce_1 (by decide) ?_
  refine zr_iconst (v := nI 0) dMo_inForce_2 (by decide) ?_
  refine zr_istore_n dMo_inForce_3 (by decide) ?_
  exact key 0 (Nat.zero_le 32)
set_option maxHeartbeats 4000000 in
set_option maxRecDepth 100000 in
theorem c_Mo_pending {G : zw_G} {c0 c1 c2 c3 c4 c5 c6 c7 c8 c9 c10 c11 c12 c13 c14 c15 c16 c17 c18 c19 c20 c21 c22 c23 c24 : zw_C} {n ty wo ch : Nat} {tx le la sz wh wt ma bk lf rt : Nat → Int32} {cu co wr : Nat → Int64} {r : zw_W} {lb : Nat → Nat} (hch : ch ≤ 24) (hbk : ∀ j, j < ch → bk j = nI (lb j)) : zw_Met G Y_Mo_pending 0 0 0 [.ref 26] (c0 :: c1 :: c2 :: c3 :: c4 :: c5 :: c6 :: c7 :: c8 :: c9 :: c10 :: c11 :: c12 :: c13 :: c14 :: c15 :: c16 :: c17 :: c18 :: c19 :: c20 :: c21 :: c22 :: c23 :: c24 :: zk_Mo n ty wo ch :: zk_I 40 tx :: zk_L 20 cu :: zk_I 160 le :: zk_I 64 la :: zk_I 64 sz :: zk_L 1280 co :: zk_I 24 wh :: zk_I 24 wt :: zk_I 24 ma :: zk_I 24 bk :: zk_L 480 wr :: zk_I 50 lf :: zk_I 50 rt :: r) (zw_is (some (.int (nI (wn_sum lb ch)))) (c0 :: c1 :: c2 :: c3 :: c4 :: c5 :: c6 :: c7 :: c8 :: c9 :: c10 :: c11 :: c12 :: c13 :: c14 :: c15 :: c16 :: c17 :: c18 :: c19 :: c20 :: c21 :: c22 :: c23 :: c24 :: zk_Mo n ty wo ch :: zk_I 40 tx :: zk_L 20 cu :: zk_I 160 le :: zk_I 64 la :: zk_I 64 sz :: zk_L 1280 co :: zk_I 24 wh :: zk_I 24 wt :: zk_I 24 ma :: zk_I 24 bk :: zk_L 480 wr :: zk_I 50 lf :: zk_I 50 rt :: r)) := by
  have key : ∀ k, k ≤ ch → zw_Z G Y_Mo_pending (zw_R 0 0 0) (fun _ => True) (zw_Q G 0 0 (zw_is (some (.int (nI (wn_sum lb ch)))) (c0 :: c1 :: c2 :: c3 :: c4 :: c5 :: c6 :: c7 :: c8 :: c9 :: c10 :: c11 :: c12 :: c13 :: c14 :: c15 :: c16 :: c17 :: c18 :: c19 :: c20 :: c21 :: c22 :: c23 :: c24 :: zk_Mo n ty wo ch :: zk_I 40 tx :: zk_L 20 cu :: zk_I 160 le :: zk_I 64 la :: zk_I 64 sz :: zk_L 1280 co :: zk_I 24 wh :: zk_I 24 wt :: zk_I 24 ma :: zk_I 24 bk :: zk_L 480 wr :: zk_I 50 lf :: zk_I 50 rt :: r))) 0 0 4 [some (.ref 26), some (.int (nI (wn_sum lb k))), some (.int (nI k))] [] (c0 :: c1 :: c2 :: c3 :: c4 :: c5 :: c6 :: c7 :: c8 :: c9 :: c10 :: c11 :: c12 :: c13 :: c14 :: c15 :: c16 :: c17 :: c18 :: c19 :: c20 :: c21 :: c22 :: c23 :: c24 :: zk_Mo n ty wo ch :: zk_I 40 tx :: zk_L 20 cu :: zk_I 160 le :: zk_I 64 la :: zk_I 64 sz :: zk_L 1280 co :: zk_I 24 wh :: zk_I 24 wt :: zk_I 24 ma :: zk_I 24 bk :: zk_L 480 wr :: zk_I 50 lf :: zk_I 50 rt :: r) := by
    refine wz_up ch (fun k hk ih => ?_) ?_
    · refine zr_iload_n dMo_pending_4 rfl ?_
      refine zr_aload_n dMo_pending_5 rfl rfl ?_
      refine zr_getf g_Mo_69 dMo_pending_6 rfl rfl ?_
      refine zr_icmp_geN (tgt := 27) (by omega) (by omega) dMo_pending_9 (by decide) (fun h9 => ?_) (fun h9 => ?_)
      · exfalso; omega
      · refine zr_iload_n dMo_pending_12 rfl ?_
        refine zr_aload_n dMo_pending_13 rfl rfl ?_
        refine zr_getf g_Mo_38 dMo_pending_14 rfl rfl ?_
        refine zr_iload_n dMo_pending_17 rfl ?_
        refine zr_iald dMo_pending_18 rfl (by omega) (by decide) ?_
        refine zr_topI (hbk k hk) ?_
        refine zr_iaddN dMo_pending_19 ?_
        refine zr_istore_n dMo_pending_20 (by decide) ?_
        refine zr_iinc (v := nI (k + 1)) dMo_pending_21 rfl (nI_1 _) (by decide) ?_
        refine zr_goto (tgt := 4) dMo_pending_24 (by decide) ?_
        exact ih
    · refine zr_iload_n dMo_pending_4 rfl ?_
      refine zr_aload_n dMo_pending_5 rfl rfl ?_
      refine zr_getf g_Mo_69 dMo_pending_6 rfl rfl ?_
      refine zr_icmp_geN (tgt := 27) (by omega) (by omega) dMo_pending_9 (by decide) (fun h9 => ?_) (fun h9 => ?_)
      · refine zr_iload_n dMo_pending_27 rfl ?_
        exact zr_ireturn dMo_pending_28 rfl rfl (⟨rfl, rfl⟩)
      · exfalso; omega
  show zw_Z G Y_Mo_pending _ _ _ 0 0 0 [some (.ref 26), none, none] [] _
  refine zr_iconst (v := nI 0) dMo_pending_0 (by decide) ?_
  refine zr_istore_n dMo_pending_1 (by decide) ?_
  refine zr_iconst (v := nI 0) dMo_pending_2 (by decide) ?_
  refine zr_istore_n dMo_pending_3 (by decide) ?_
  exact key 0 (Nat.zero_le ch)
set_option maxHeartbeats 4000000 in
set_option maxRecDepth 100000 in
theorem c_Mo_log {G : zw_G} {c0 c1 c2 c3 c4 c5 c6 c7 c8 c9 c10 c11 c12 c13 c14 c15 c16 c17 c18 c19 c20 c21 c22 c23 c24 : zw_C} {n ty wo ch : Nat} {tx le la sz wh wt ma bk lf rt : Nat → Int32} {cu co wr : Nat → Int64} {r : zw_W} {id lw nn room : Nat} (hch : ch < 24) (hnn : nn ≤ 20) : zw_Met G Y_Mo_log 0 0 0 [.ref 26, .int (nI id), .int (nI lw), .int (nI nn), .int (nI room)] (c0 :: c1 :: c2 :: c3 :: c4 :: c5 :: c6 :: c7 :: c8 :: c9 :: c10 :: c11 :: c12 :: c13 :: c14 :: c15 :: c16 :: c17 :: c18 :: c19 :: c20 :: c21 :: c22 :: c23 :: c24 :: zk_Mo n ty wo ch :: zk_I 40 tx :: zk_L 20 cu :: zk_I 160 le :: zk_I 64 la :: zk_I 64 sz :: zk_L 1280 co :: zk_I 24 wh :: zk_I 24 wt :: zk_I 24 ma :: zk_I 24 bk :: zk_L 480 wr :: zk_I 50 lf :: zk_I 50 rt :: r) (zw_is none (c0 :: c1 :: c2 :: c3 :: c4 :: c5 :: c6 :: c7 :: c8 :: c9 :: c10 :: c11 :: c12 :: c13 :: c14 :: c15 :: c16 :: c17 :: c18 :: c19 :: c20 :: c21 :: c22 :: c23 :: c24 :: zk_Mo n ty wo (ch + 1) :: zk_I 40 tx :: zk_L 20 cu :: zk_I 160 le :: zk_I 64 la :: zk_I 64 sz :: zk_L 1280 co :: zk_I 24 (upd wh ch (nI id)) :: zk_I 24 (upd wt ch (nI lw)) :: zk_I 24 (upd ma ch (nI nn)) :: zk_I 24 (upd bk ch (nI room)) :: zk_L 480 (va_cpy cu wr 0 (20 * ch) nn) :: zk_I 50 lf :: zk_I 50 rt :: r)) := by
  have key : ∀ k, k ≤ nn → zw_Z G Y_Mo_log (zw_R 0 0 0) (fun _ => True) (zw_Q G 0 0 (zw_is none (c0 :: c1 :: c2 :: c3 :: c4 :: c5 :: c6 :: c7 :: c8 :: c9 :: c10 :: c11 :: c12 :: c13 :: c14 :: c15 :: c16 :: c17 :: c18 :: c19 :: c20 :: c21 :: c22 :: c23 :: c24 :: zk_Mo n ty wo (ch + 1) :: zk_I 40 tx :: zk_L 20 cu :: zk_I 160 le :: zk_I 64 la :: zk_I 64 sz :: zk_L 1280 co :: zk_I 24 (upd wh ch (nI id)) :: zk_I 24 (upd wt ch (nI lw)) :: zk_I 24 (upd ma ch (nI nn)) :: zk_I 24 (upd bk ch (nI room)) :: zk_L 480 (va_cpy cu wr 0 (20 * ch) nn) :: zk_I 50 lf :: zk_I 50 rt :: r))) 0 0 44 [some (.ref 26), some (.int (nI id)), some (.int (nI lw)), some (.int (nI nn)), some (.int (nI room)), some (.int (nI k))] [] (c0 :: c1 :: c2 :: c3 :: c4 :: c5 :: c6 :: c7 :: c8 :: c9 :: c10 :: c11 :: c12 :: c13 :: c14 :: c15 :: c16 :: c17 :: c18 :: c19 :: c20 :: c21 :: c22 :: c23 :: c24 :: zk_Mo n ty wo ch :: zk_I 40 tx :: zk_L 20 cu :: zk_I 160 le :: zk_I 64 la :: zk_I 64 sz :: zk_L 1280 co :: zk_I 24 (upd wh ch (nI id)) :: zk_I 24 (upd wt ch (nI lw)) :: zk_I 24 (upd ma ch (nI nn)) :: zk_I 24 (upd bk ch (nI room)) :: zk_L 480 (va_cpy cu wr 0 (20 * ch) k) :: zk_I 50 lf :: zk_I 50 rt :: r) := by
    refine wz_up nn (fun k hk ih => ?_) ?_
    · refine zr_iload dMo_log_44 rfl ?_
      refine zr_iload_n dMo_log_46 rfl ?_
      refine zr_icmp_geN (tgt := 78) (by omega) (by omega) dMo_log_47 (by decide) (fun h47 => ?_) (fun h47 => ?_)
      · exfalso; omega
      · refine zr_aload_n dMo_log_50 rfl rfl ?_
        refine zr_getf g_Mo_41 dMo_log_51 rfl rfl ?_
        refine zr_bipush (v := nI 20) dMo_log_54 (by decide) ?_
        refine zr_aload_n dMo_log_56 rfl rfl ?_
        refine zr_getf g_Mo_69 dMo_log_57 rfl rfl ?_
        refine zr_imulN dMo_log_60 ?_
        refine zr_iload dMo_log_61 rfl ?_
        refine zr_iaddN dMo_log_63 ?_
        refine zr_aload_n dMo_log_64 rfl rfl ?_
        refine zr_getf g_Mo_13 dMo_log_65 rfl rfl ?_
        refine zr_iload dMo_log_68 rfl ?_
        refine zr_lald dMo_log_70 rfl (by omega) (by decide) ?_
        refine zr_last dMo_log_71 rfl (by omega) (by decide) ?_
        refine zr_wld (w2 := (c0 :: c1 :: c2 :: c3 :: c4 :: c5 :: c6 :: c7 :: c8 :: c9 :: c10 :: c11 :: c12 :: c13 :: c14 :: c15 :: c16 :: c17 :: c18 :: c19 :: c20 :: c21 :: c22 :: c23 :: c24 :: zk_Mo n ty wo ch :: zk_I 40 tx :: zk_L 20 cu :: zk_I 160 le :: zk_I 64 la :: zk_I 64 sz :: zk_L 1280 co :: zk_I 24 (upd wh ch (nI id)) :: zk_I 24 (upd wt ch (nI lw)) :: zk_I 24 (upd ma ch (nI nn)) :: zk_I 24 (upd bk ch (nI room)) :: zk_L 480 (va_cpy cu wr 0 (20 * ch) (k + 1)) :: zk_I 50 lf :: zk_I 50 rt :: r)) (by rw [← mo_cpyL, Nat.zero_add]; rfl) ?_
        refine zr_iinc (v := nI (k + 1)) dMo_log_72 rfl (nI_1 _) (by decide) ?_
        refine zr_goto (tgt := 44) dMo_log_75 (by decide) ?_
        exact ih
    · refine zr_iload dMo_log_44 rfl ?_
      refine zr_iload_n dMo_log_46 rfl ?_
      refine zr_icmp_geN (tgt := 78) (by omega) (by omega) dMo_log_47 (by decide) (fun h47 => ?_) (fun h47 => ?_)
      · refine zr_aload_n dMo_log_78 rfl rfl ?_
        refine zr_dup dMo_log_79 rfl ?_
        refine zr_getf g_Mo_69 dMo_log_80 rfl rfl ?_
        refine zr_iconst (v := nI 1) dMo_log_83 (by decide) ?_
        refine zr_iaddN dMo_log_84 ?_
        refine zr_putf f_Mo_69 dMo_log_85 rfl (Nat.le_of_ble_eq_true rfl) (fun _ => rfl) (fun _ => rfl) ?_
        exact zr_return dMo_log_88 rfl (⟨rfl, rfl⟩)
      · exfalso; omega
  show zw_Z G Y_Mo_log _ _ _ 0 0 0 [some (.ref 26), some (.int (nI id)), some (.int (nI lw)), some (.int (nI nn)), some (.int (nI room)), none] [] _
  refine zr_aload_n dMo_log_0 rfl rfl ?_
  refine zr_getf g_Mo_29 dMo_log_1 rfl rfl ?_
  refine zr_aload_n dMo_log_4 rfl rfl ?_
  refine zr_getf g_Mo_69 dMo_log_5 rfl rfl ?_
  refine zr_iload_n dMo_log_8 rfl ?_
  refine zr_iast dMo_log_9 rfl (hch) (by decide) ?_
  refine zr_aload_n dMo_log_10 rfl rfl ?_
  refine zr_getf g_Mo_32 dMo_log_11 rfl rfl ?_
  refine zr_aload_n dMo_log_14 rfl rfl ?_
  refine zr_getf g_Mo_69 dMo_log_15 rfl rfl ?_
  refine zr_iload_n dMo_log_18 rfl ?_
  refine zr_iast dMo_log_19 rfl (hch) (by decide) ?_
  refine zr_aload_n dMo_log_20 rfl rfl ?_
  refine zr_getf g_Mo_35 dMo_log_21 rfl rfl ?_
  refine zr_aload_n dMo_log_24 rfl rfl ?_
  refine zr_getf g_Mo_69 dMo_log_25 rfl rfl ?_
  refine zr_iload_n dMo_log_28 rfl ?_
  refine zr_iast dMo_log_29 rfl (hch) (by decide) ?_
  refine zr_aload_n dMo_log_30 rfl rfl ?_
  refine zr_getf g_Mo_38 dMo_log_31 rfl rfl ?_
  refine zr_aload_n dMo_log_34 rfl rfl ?_
  refine zr_getf g_Mo_69 dMo_log_35 rfl rfl ?_
  refine zr_iload dMo_log_38 rfl ?_
  refine zr_iast dMo_log_40 rfl (hch) (by decide) ?_
  refine zr_iconst (v := nI 0) dMo_log_41 (by decide) ?_
  refine zr_istore dMo_log_42 (by decide) ?_
  refine zr_wld (w2 := (c0 :: c1 :: c2 :: c3 :: c4 :: c5 :: c6 :: c7 :: c8 :: c9 :: c10 :: c11 :: c12 :: c13 :: c14 :: c15 :: c16 :: c17 :: c18 :: c19 :: c20 :: c21 :: c22 :: c23 :: c24 :: zk_Mo n ty wo ch :: zk_I 40 tx :: zk_L 20 cu :: zk_I 160 le :: zk_I 64 la :: zk_I 64 sz :: zk_L 1280 co :: zk_I 24 (upd wh ch (nI id)) :: zk_I 24 (upd wt ch (nI lw)) :: zk_I 24 (upd ma ch (nI nn)) :: zk_I 24 (upd bk ch (nI room)) :: zk_L 480 (va_cpy cu wr 0 (20 * ch) 0) :: zk_I 50 lf :: zk_I 50 rt :: r)) (by rw [mo_cpy0]; rfl) ?_
  exact key 0 (Nat.zero_le nn)
set_option maxHeartbeats 4000000 in
set_option maxRecDepth 100000 in
theorem c_Mo_apply {G : zw_G} {c0 c1 c2 c3 c4 c5 c6 c7 c8 c9 c10 c11 c12 c13 c14 c15 c16 c17 c18 c19 c20 c21 c22 c23 c24 : zw_C} {n ty wo ch : Nat} {tx le la sz wh wt ma bk lf rt : Nat → Int32} {cu co wr : Nat → Int64} {r : zw_W} {c li ln : Nat} (hc : c < 24) (hwh : wh c = nI li) (hma : ma c = nI ln) (hli : li < 32) (hln : ln ≤ 20) : zw_Met G Y_Mo_apply 0 0 0 [.ref 26, .int (nI c)] (c0 :: c1 :: c2 :: c3 :: c4 :: c5 :: c6 :: c7 :: c8 :: c9 :: c10 :: c11 :: c12 :: c13 :: c14 :: c15 :: c16 :: c17 :: c18 :: c19 :: c20 :: c21 :: c22 :: c23 :: c24 :: zk_Mo n ty wo ch :: zk_I 40 tx :: zk_L 20 cu :: zk_I 160 le :: zk_I 64 la :: zk_I 64 sz :: zk_L 1280 co :: zk_I 24 wh :: zk_I 24 wt :: zk_I 24 ma :: zk_I 24 bk :: zk_L 480 wr :: zk_I 50 lf :: zk_I 50 rt :: r) (zw_is none (c0 :: c1 :: c2 :: c3 :: c4 :: c5 :: c6 :: c7 :: c8 :: c9 :: c10 :: c11 :: c12 :: c13 :: c14 :: c15 :: c16 :: c17 :: c18 :: c19 :: c20 :: c21 :: c22 :: c23 :: c24 :: zk_Mo n ty wo ch :: zk_I 40 tx :: zk_L 20 cu :: zk_I 160 le :: zk_I 64 (upd la li (wt c)) :: zk_I 64 (upd sz li (ma c)) :: zk_L 1280 (va_cpy wr co (20 * c) (20 * li) ln) :: zk_I 24 wh :: zk_I 24 wt :: zk_I 24 ma :: zk_I 24 bk :: zk_L 480 wr :: zk_I 50 lf :: zk_I 50 rt :: r)) := by
  have key : ∀ k, k ≤ ln → zw_Z G Y_Mo_apply (zw_R 0 0 0) (fun _ => True) (zw_Q G 0 0 (zw_is none (c0 :: c1 :: c2 :: c3 :: c4 :: c5 :: c6 :: c7 :: c8 :: c9 :: c10 :: c11 :: c12 :: c13 :: c14 :: c15 :: c16 :: c17 :: c18 :: c19 :: c20 :: c21 :: c22 :: c23 :: c24 :: zk_Mo n ty wo ch :: zk_I 40 tx :: zk_L 20 cu :: zk_I 160 le :: zk_I 64 (upd la li (wt c)) :: zk_I 64 (upd sz li (ma c)) :: zk_L 1280 (va_cpy wr co (20 * c) (20 * li) ln) :: zk_I 24 wh :: zk_I 24 wt :: zk_I 24 ma :: zk_I 24 bk :: zk_L 480 wr :: zk_I 50 lf :: zk_I 50 rt :: r))) 0 0 33 [some (.ref 26), some (.int (nI c)), some (.int (nI li)), some (.int (nI k))] [] (c0 :: c1 :: c2 :: c3 :: c4 :: c5 :: c6 :: c7 :: c8 :: c9 :: c10 :: c11 :: c12 :: c13 :: c14 :: c15 :: c16 :: c17 :: c18 :: c19 :: c20 :: c21 :: c22 :: c23 :: c24 :: zk_Mo n ty wo ch :: zk_I 40 tx :: zk_L 20 cu :: zk_I 160 le :: zk_I 64 (upd la li (wt c)) :: zk_I 64 (upd sz li (ma c)) :: zk_L 1280 (va_cpy wr co (20 * c) (20 * li) k) :: zk_I 24 wh :: zk_I 24 wt :: zk_I 24 ma :: zk_I 24 bk :: zk_L 480 wr :: zk_I 50 lf :: zk_I 50 rt :: r) := by
    refine wz_up ln (fun k hk ih => ?_) ?_
    · refine zr_iload_n dMo_apply_33 rfl ?_
      refine zr_aload_n dMo_apply_34 rfl rfl ?_
      refine zr_getf g_Mo_35 dMo_apply_35 rfl rfl ?_
      refine zr_iload_n dMo_apply_38 rfl ?_
      refine zr_iald dMo_apply_39 rfl (by omega) (by decide) ?_
      refine zr_topI hma ?_
      refine zr_icmp_geN (tgt := 71) (by omega) (by omega) dMo_apply_40 (by decide) (fun h40 => ?_) (fun h40 => ?_)
      · exfalso; omega
      · refine zr_aload_n dMo_apply_43 rfl rfl ?_
        refine zr_getf g_Mo_26 dMo_apply_44 rfl rfl ?_
        refine zr_bipush (v := nI 20) dMo_apply_47 (by decide) ?_
        refine zr_iload_n dMo_apply_49 rfl ?_
        refine zr_imulN dMo_apply_50 ?_
        refine zr_iload_n dMo_apply_51 rfl ?_
        refine zr_iaddN dMo_apply_52 ?_
        refine zr_aload_n dMo_apply_53 rfl rfl ?_
        refine zr_getf g_Mo_41 dMo_apply_54 rfl rfl ?_
        refine zr_bipush (v := nI 20) dMo_apply_57 (by decide) ?_
        refine zr_iload_n dMo_apply_59 rfl ?_
        refine zr_imulN dMo_apply_60 ?_
        refine zr_iload_n dMo_apply_61 rfl ?_
        refine zr_iaddN dMo_apply_62 ?_
        refine zr_lald dMo_apply_63 rfl (by omega) (by decide) ?_
        refine zr_last dMo_apply_64 rfl (by omega) (by decide) ?_
        refine zr_wld (w2 := (c0 :: c1 :: c2 :: c3 :: c4 :: c5 :: c6 :: c7 :: c8 :: c9 :: c10 :: c11 :: c12 :: c13 :: c14 :: c15 :: c16 :: c17 :: c18 :: c19 :: c20 :: c21 :: c22 :: c23 :: c24 :: zk_Mo n ty wo ch :: zk_I 40 tx :: zk_L 20 cu :: zk_I 160 le :: zk_I 64 (upd la li (wt c)) :: zk_I 64 (upd sz li (ma c)) :: zk_L 1280 (va_cpy wr co (20 * c) (20 * li) (k + 1)) :: zk_I 24 wh :: zk_I 24 wt :: zk_I 24 ma :: zk_I 24 bk :: zk_L 480 wr :: zk_I 50 lf :: zk_I 50 rt :: r)) (by rw [← mo_cpyL]; rfl) ?_
        refine zr_iinc (v := nI (k + 1)) dMo_apply_65 rfl (nI_1 _) (by decide) ?_
        refine zr_goto (tgt := 33) dMo_apply_68 (by decide) ?_
        exact ih
    · refine zr_iload_n dMo_apply_33 rfl ?_
      refine zr_aload_n dMo_apply_34 rfl rfl ?_
      refine zr_getf g_Mo_35 dMo_apply_35 rfl rfl ?_
      refine zr_iload_n dMo_apply_38 rfl ?_
      refine zr_iald dMo_apply_39 rfl (by omega) (by decide) ?_
      refine zr_topI hma ?_
      refine zr_icmp_geN (tgt := 71) (by omega) (by omega) dMo_apply_40 (by decide) (fun h40 => ?_) (fun h40 => ?_)
      · exact zr_return dMo_apply_71 rfl (⟨rfl, rfl⟩)
      · exfalso; omega
  show zw_Z G Y_Mo_apply _ _ _ 0 0 0 [some (.ref 26), some (.int (nI c)), none, none] [] _
  refine zr_aload_n dMo_apply_0 rfl rfl ?_
  refine zr_getf g_Mo_29 dMo_apply_1 rfl rfl ?_
  refine zr_iload_n dMo_apply_4 rfl ?_
  refine zr_iald dMo_apply_5 rfl (by omega) (by decide) ?_
  refine zr_topI hwh ?_
  refine zr_istore_n dMo_apply_6 (by decide) ?_
  refine zr_aload_n dMo_apply_7 rfl rfl ?_
  refine zr_getf g_Mo_20 dMo_apply_8 rfl rfl ?_
  refine zr_iload_n dMo_apply_11 rfl ?_
  refine zr_aload_n dMo_apply_12 rfl rfl ?_
  refine zr_getf g_Mo_32 dMo_apply_13 rfl rfl ?_
  refine zr_iload_n dMo_apply_16 rfl ?_
  refine zr_iald dMo_apply_17 rfl (by omega) (by decide) ?_
  refine zr_iast dMo_apply_18 rfl (by omega) (by decide) ?_
  refine zr_aload_n dMo_apply_19 rfl rfl ?_
  refine zr_getf g_Mo_23 dMo_apply_20 rfl rfl ?_
  refine zr_iload_n dMo_apply_23 rfl ?_
  refine zr_aload_n dMo_apply_24 rfl rfl ?_
  refine zr_getf g_Mo_35 dMo_apply_25 rfl rfl ?_
  refine zr_iload_n dMo_apply_28 rfl ?_
  refine zr_iald dMo_apply_29 rfl (by omega) (by decide) ?_
  refine zr_iast dMo_apply_30 rfl (by omega) (by decide) ?_
  refine zr_iconst (v := nI 0) dMo_apply_31 (by decide) ?_
  refine zr_istore_n dMo_apply_32 (by decide) ?_
  refine zr_wld (w2 := (c0 :: c1 :: c2 :: c3 :: c4 :: c5 :: c6 :: c7 :: c8 :: c9 :: c10 :: c11 :: c12 :: c13 :: c14 :: c15 :: c16 :: c17 :: c18 :: c19 :: c20 :: c21 :: c22 :: c23 :: c24 :: zk_Mo n ty wo ch :: zk_I 40 tx :: zk_L 20 cu :: zk_I 160 le :: zk_I 64 (upd la li (wt c)) :: zk_I 64 (upd sz li (ma c)) :: zk_L 1280 (va_cpy wr co (20 * c) (20 * li) 0) :: zk_I 24 wh :: zk_I 24 wt :: zk_I 24 ma :: zk_I 24 bk :: zk_L 480 wr :: zk_I 50 lf :: zk_I 50 rt :: r)) (by rw [mo_cpy0]; rfl) ?_
  exact key 0 (Nat.zero_le ln)
set_option maxHeartbeats 4000000 in
set_option maxRecDepth 100000 in
theorem c_Mo_copy {G : zw_G} {c0 c1 c2 c3 c4 c5 c6 c7 c8 c9 c10 c11 c12 c13 c14 c15 c16 c17 c18 c19 c20 c21 c22 c23 c24 : zw_C} {n ty wo ch : Nat} {tx le la sz wh wt ma bk lf rt : Nat → Int32} {cu co wr : Nat → Int64} {r : zw_W} {fr to : Nat} (hft : fr = 0 ∧ to = 32 ∨ fr = 32 ∧ to = 0) : zw_Met G Y_Mo_copy 0 0 0 [.ref 26, .int (nI fr), .int (nI to)] (c0 :: c1 :: c2 :: c3 :: c4 :: c5 :: c6 :: c7 :: c8 :: c9 :: c10 :: c11 :: c12 :: c13 :: c14 :: c15 :: c16 :: c17 :: c18 :: c19 :: c20 :: c21 :: c22 :: c23 :: c24 :: zk_Mo n ty wo ch :: zk_I 40 tx :: zk_L 20 cu :: zk_I 160 le :: zk_I 64 la :: zk_I 64 sz :: zk_L 1280 co :: zk_I 24 wh :: zk_I 24 wt :: zk_I 24 ma :: zk_I 24 bk :: zk_L 480 wr :: zk_I 50 lf :: zk_I 50 rt :: r) (zw_is none (c0 :: c1 :: c2 :: c3 :: c4 :: c5 :: c6 :: c7 :: c8 :: c9 :: c10 :: c11 :: c12 :: c13 :: c14 :: c15 :: c16 :: c17 :: c18 :: c19 :: c20 :: c21 :: c22 :: c23 :: c24 :: zk_Mo n ty wo ch :: zk_I 40 tx :: zk_L 20 cu :: zk_I 160 le :: zk_I 64 (va_cpy la la fr to 32) :: zk_I 64 (va_cpy sz sz fr to 32) :: zk_L 1280 (va_cpy co co (20 * fr) (20 * to) 640) :: zk_I 24 wh :: zk_I 24 wt :: zk_I 24 ma :: zk_I 24 bk :: zk_L 480 wr :: zk_I 50 lf :: zk_I 50 rt :: r)) := by
  have key2 : ∀ k, k ≤ 640 → zw_Z G Y_Mo_copy (zw_R 0 0 0) (fun _ => True) (zw_Q G 0 0 (zw_is none (c0 :: c1 :: c2 :: c3 :: c4 :: c5 :: c6 :: c7 :: c8 :: c9 :: c10 :: c11 :: c12 :: c13 :: c14 :: c15 :: c16 :: c17 :: c18 :: c19 :: c20 :: c21 :: c22 :: c23 :: c24 :: zk_Mo n ty wo ch :: zk_I 40 tx :: zk_L 20 cu :: zk_I 160 le :: zk_I 64 (va_cpy la la fr to 32) :: zk_I 64 (va_cpy sz sz fr to 32) :: zk_L 1280 (va_cpy co co (20 * fr) (20 * to) 640) :: zk_I 24 wh :: zk_I 24 wt :: zk_I 24 ma :: zk_I 24 bk :: zk_L 480 wr :: zk_I 50 lf :: zk_I 50 rt :: r))) 0 0 48 [some (.ref 26), some (.int (nI fr)), some (.int (nI to)), some (.int (nI k))] [] (c0 :: c1 :: c2 :: c3 :: c4 :: c5 :: c6 :: c7 :: c8 :: c9 :: c10 :: c11 :: c12 :: c13 :: c14 :: c15 :: c16 :: c17 :: c18 :: c19 :: c20 :: c21 :: c22 :: c23 :: c24 :: zk_Mo n ty wo ch :: zk_I 40 tx :: zk_L 20 cu :: zk_I 160 le :: zk_I 64 (va_cpy la la fr to 32) :: zk_I 64 (va_cpy sz sz fr to 32) :: zk_L 1280 (va_cpy co co (20 * fr) (20 * to) k) :: zk_I 24 wh :: zk_I 24 wt :: zk_I 24 ma :: zk_I 24 bk :: zk_L 480 wr :: zk_I 50 lf :: zk_I 50 rt :: r) := by
    refine wz_up 640 (fun k hk ih => ?_) ?_
    · refine zr_iload_n dMo_copy_48 rfl ?_
      refine zr_sipush (v := nI 640) dMo_copy_49 (by decide) ?_
      refine zr_icmp_geN (tgt := 83) (by omega) (by omega) dMo_copy_52 (by decide) (fun h52 => ?_) (fun h52 => ?_)
      · exfalso; omega
      · refine zr_aload_n dMo_copy_55 rfl rfl ?_
        refine zr_getf g_Mo_26 dMo_copy_56 rfl rfl ?_
        refine zr_bipush (v := nI 20) dMo_copy_59 (by decide) ?_
        refine zr_iload_n dMo_copy_61 rfl ?_
        refine zr_imulN dMo_copy_62 ?_
        refine zr_iload_n dMo_copy_63 rfl ?_
        refine zr_iaddN dMo_copy_64 ?_
        refine zr_aload_n dMo_copy_65 rfl rfl ?_
        refine zr_getf g_Mo_26 dMo_copy_66 rfl rfl ?_
        refine zr_bipush (v := nI 20) dMo_copy_69 (by decide) ?_
        refine zr_iload_n dMo_copy_71 rfl ?_
        refine zr_imulN dMo_copy_72 ?_
        refine zr_iload_n dMo_copy_73 rfl ?_
        refine zr_iaddN dMo_copy_74 ?_
        refine zr_lald dMo_copy_75 rfl (by omega) (by decide) ?_
        refine zr_topL (show va_cpy co co (20 * fr) (20 * to) k (20 * fr + k) = co (20 * fr + k) from pk_cpy_out (by omega)) ?_
        refine zr_last dMo_copy_76 rfl (by omega) (by decide) ?_
        refine zr_wld (w2 := (c0 :: c1 :: c2 :: c3 :: c4 :: c5 :: c6 :: c7 :: c8 :: c9 :: c10 :: c11 :: c12 :: c13 :: c14 :: c15 :: c16 :: c17 :: c18 :: c19 :: c20 :: c21 :: c22 :: c23 :: c24 :: zk_Mo n ty wo ch :: zk_I 40 tx :: zk_L 20 cu :: zk_I 160 le :: zk_I 64 (va_cpy la la fr to 32) :: zk_I 64 (va_cpy sz sz fr to 32) :: zk_L 1280 (va_cpy co co (20 * fr) (20 * to) (k + 1)) :: zk_I 24 wh :: zk_I 24 wt :: zk_I 24 ma :: zk_I 24 bk :: zk_L 480 wr :: zk_I 50 lf :: zk_I 50 rt :: r)) (by rw [← mo_cpyL]; rfl) ?_
        refine zr_iinc (v := nI (k + 1)) dMo_copy_77 rfl (nI_1 _) (by decide) ?_
        refine zr_goto (tgt := 48) dMo_copy_80 (by decide) ?_
        exact ih
    · refine zr_iload_n dMo_copy_48 rfl ?_
      refine zr_sipush (v := nI 640) dMo_copy_49 (by decide) ?_
      refine zr_icmp_geN (tgt := 83) (by omega) (by omega) dMo_copy_52 (by decide) (fun h52 => ?_) (fun h52 => ?_)
      · exact zr_return dMo_copy_83 rfl (⟨rfl, rfl⟩)
      · exfalso; omega
  have key1 : ∀ k, k ≤ 32 → zw_Z G Y_Mo_copy (zw_R 0 0 0) (fun _ => True) (zw_Q G 0 0 (zw_is none (c0 :: c1 :: c2 :: c3 :: c4 :: c5 :: c6 :: c7 :: c8 :: c9 :: c10 :: c11 :: c12 :: c13 :: c14 :: c15 :: c16 :: c17 :: c18 :: c19 :: c20 :: c21 :: c22 :: c23 :: c24 :: zk_Mo n ty wo ch :: zk_I 40 tx :: zk_L 20 cu :: zk_I 160 le :: zk_I 64 (va_cpy la la fr to 32) :: zk_I 64 (va_cpy sz sz fr to 32) :: zk_L 1280 (va_cpy co co (20 * fr) (20 * to) 640) :: zk_I 24 wh :: zk_I 24 wt :: zk_I 24 ma :: zk_I 24 bk :: zk_L 480 wr :: zk_I 50 lf :: zk_I 50 rt :: r))) 0 0 2 [some (.ref 26), some (.int (nI fr)), some (.int (nI to)), some (.int (nI k))] [] (c0 :: c1 :: c2 :: c3 :: c4 :: c5 :: c6 :: c7 :: c8 :: c9 :: c10 :: c11 :: c12 :: c13 :: c14 :: c15 :: c16 :: c17 :: c18 :: c19 :: c20 :: c21 :: c22 :: c23 :: c24 :: zk_Mo n ty wo ch :: zk_I 40 tx :: zk_L 20 cu :: zk_I 160 le :: zk_I 64 (va_cpy la la fr to k) :: zk_I 64 (va_cpy sz sz fr to k) :: zk_L 1280 (va_cpy co co (20 * fr) (20 * to) 0) :: zk_I 24 wh :: zk_I 24 wt :: zk_I 24 ma :: zk_I 24 bk :: zk_L 480 wr :: zk_I 50 lf :: zk_I 50 rt :: r) := by
    refine wz_up 32 (fun k hk ih => ?_) ?_
    · refine zr_iload_n dMo_copy_2 rfl ?_
      refine zr_bipush (v := nI 32) dMo_copy_3 (by decide) ?_
      refine zr_icmp_geN (tgt := 46) (by omega) (by omega) dMo_copy_5 (by decide) (fun h5 => ?_) (fun h5 => ?_)
      · exfalso; omega
      · refine zr_aload_n dMo_copy_8 rfl rfl ?_
        refine zr_getf g_Mo_20 dMo_copy_9 rfl rfl ?_
        refine zr_iload_n dMo_copy_12 rfl ?_
        refine zr_iload_n dMo_copy_13 rfl ?_
        refine zr_iaddN dMo_copy_14 ?_
        refine zr_aload_n dMo_copy_15 rfl rfl ?_
        refine zr_getf g_Mo_20 dMo_copy_16 rfl rfl ?_
        refine zr_iload_n dMo_copy_19 rfl ?_
        refine zr_iload_n dMo_copy_20 rfl ?_
        refine zr_iaddN dMo_copy_21 ?_
        refine zr_iald dMo_copy_22 rfl (by omega) (by decide) ?_
        refine zr_topI (show va_cpy la la fr to k (fr + k) = la (fr + k) from pk_cpy_out (by omega)) ?_
        refine zr_iast dMo_copy_23 rfl (by omega) (by decide) ?_
        refine zr_aload_n dMo_copy_24 rfl rfl ?_
        refine zr_getf g_Mo_23 dMo_copy_25 rfl rfl ?_
        refine zr_iload_n dMo_copy_28 rfl ?_
        refine zr_iload_n dMo_copy_29 rfl ?_
        refine zr_iaddN dMo_copy_30 ?_
        refine zr_aload_n dMo_copy_31 rfl rfl ?_
        refine zr_getf g_Mo_23 dMo_copy_32 rfl rfl ?_
        refine zr_iload_n dMo_copy_35 rfl ?_
        refine zr_iload_n dMo_copy_36 rfl ?_
        refine zr_iaddN dMo_copy_37 ?_
        refine zr_iald dMo_copy_38 rfl (by omega) (by decide) ?_
        refine zr_topI (show va_cpy sz sz fr to k (fr + k) = sz (fr + k) from pk_cpy_out (by omega)) ?_
        refine zr_iast dMo_copy_39 rfl (by omega) (by decide) ?_
        refine zr_wld (w2 := (c0 :: c1 :: c2 :: c3 :: c4 :: c5 :: c6 :: c7 :: c8 :: c9 :: c10 :: c11 :: c12 :: c13 :: c14 :: c15 :: c16 :: c17 :: c18 :: c19 :: c20 :: c21 :: c22 :: c23 :: c24 :: zk_Mo n ty wo ch :: zk_I 40 tx :: zk_L 20 cu :: zk_I 160 le :: zk_I 64 (va_cpy la la fr to (k + 1)) :: zk_I 64 (va_cpy sz sz fr to (k + 1)) :: zk_L 1280 (va_cpy co co (20 * fr) (20 * to) 0) :: zk_I 24 wh :: zk_I 24 wt :: zk_I 24 ma :: zk_I 24 bk :: zk_L 480 wr :: zk_I 50 lf :: zk_I 50 rt :: r)) (by rw [← mo_cpyI, ← mo_cpyI]; rfl) ?_
        refine zr_iinc (v := nI (k + 1)) dMo_copy_40 rfl (nI_1 _) (by decide) ?_
        refine zr_goto (tgt := 2) dMo_copy_43 (by decide) ?_
        exact ih
    · refine zr_iload_n dMo_copy_2 rfl ?_
      refine zr_bipush (v := nI 32) dMo_copy_3 (by decide) ?_
      refine zr_icmp_geN (tgt := 46) (by omega) (by omega) dMo_copy_5 (by decide) (fun h5 => ?_) (fun h5 => ?_)
      · refine zr_iconst (v := nI 0) dMo_copy_46 (by decide) ?_
        refine zr_istore_n dMo_copy_47 (by decide) ?_
        exact key2 0 (Nat.zero_le 640)
      · exfalso; omega
  show zw_Z G Y_Mo_copy _ _ _ 0 0 0 [some (.ref 26), some (.int (nI fr)), some (.int (nI to)), none] [] _
  refine zr_iconst (v := nI 0) dMo_copy_0 (by decide) ?_
  refine zr_istore_n dMo_copy_1 (by decide) ?_
  refine zr_wld (w2 := (c0 :: c1 :: c2 :: c3 :: c4 :: c5 :: c6 :: c7 :: c8 :: c9 :: c10 :: c11 :: c12 :: c13 :: c14 :: c15 :: c16 :: c17 :: c18 :: c19 :: c20 :: c21 :: c22 :: c23 :: c24 :: zk_Mo n ty wo ch :: zk_I 40 tx :: zk_L 20 cu :: zk_I 160 le :: zk_I 64 (va_cpy la la fr to 0) :: zk_I 64 (va_cpy sz sz fr to 0) :: zk_L 1280 (va_cpy co co (20 * fr) (20 * to) 0) :: zk_I 24 wh :: zk_I 24 wt :: zk_I 24 ma :: zk_I 24 bk :: zk_L 480 wr :: zk_I 50 lf :: zk_I 50 rt :: r)) (by rw [mo_cpy0, mo_cpy0, mo_cpy0]) ?_
  exact key1 0 (Nat.zero_le 32)
def mo_label (L : Nat → Nat) (id : Int32) : Int32 := if ¬ id < 0 ∧ id < nI 32 then nI (L id.toNatClampNeg) - nI 1 else -1
set_option maxHeartbeats 4000000 in
set_option maxRecDepth 100000 in
theorem c_Mo_label {G : zw_G} {c0 c1 c2 c3 c4 c5 c6 c7 c8 c9 c10 c11 c12 c13 c14 c15 c16 c17 c18 c19 c20 c21 c22 c23 c24 : zw_C} {n ty wo ch : Nat} {tx le la sz wh wt ma bk lf rt : Nat → Int32} {cu co wr : Nat → Int64} {r : zw_W} {L : Nat → Nat} (hla : ∀ i, i < 64 → la i = nI (L i) ∧ L i < 1000) {id : Int32} : zw_Met G Y_Mo_label 1 0 0 [.ref 26, .int id] ((c0 :: c1 :: c2 :: c3 :: c4 :: c5 :: c6 :: c7 :: c8 :: c9 :: c10 :: c11 :: c12 :: c13 :: c14 :: c15 :: c16 :: c17 :: c18 :: c19 :: c20 :: c21 :: c22 :: c23 :: c24 :: zk_Mo n ty wo ch :: zk_I 40 tx :: zk_L 20 cu :: zk_I 160 le :: zk_I 64 la :: zk_I 64 sz :: zk_L 1280 co :: zk_I 24 wh :: zk_I 24 wt :: zk_I 24 ma :: zk_I 24 bk :: zk_L 480 wr :: zk_I 50 lf :: zk_I 50 rt :: r)) (zw_is (some (.int (mo_label L id))) (c0 :: c1 :: c2 :: c3 :: c4 :: c5 :: c6 :: c7 :: c8 :: c9 :: c10 :: c11 :: c12 :: c13 :: c14 :: c15 :: c16 :: c17 :: c18 :: c19 :: c20 :: c21 :: c22 :: c23 :: c24 :: zk_Mo n ty wo ch :: zk_I 40 tx :: zk_L 20 cu :: zk_I 160 le :: zk_I 64 la :: zk_I 64 sz :: zk_L 1280 co :: zk_I 24 wh :: zk_I 24 wt :: zk_I 24 ma :: zk_I 24 bk :: zk_L 480 wr :: zk_I 50 lf :: zk_I 50 rt :: r)) := by
  show zw_Z G Y_Mo_label _ _ _ 0 0 0 [some (.ref 26), some (.int id)] [] _
  refine zr_iload_n dMo_label_0 rfl ?_
  refine zr_invS c_Mo_isId m_Mo_isId k_Mo_72 (s_Mo_isId) dMo_label_1 rfl (Nat.le_of_ble_eq_true rfl) (by decide) (Nat.le_of_ble_eq_true rfl) rfl (fun v w2 hp => ?_)
  obtain ⟨rfl, rfl⟩ := hp
  refine ⟨rfl, ?_⟩
  refine zr_if_eqB (tgt := 18) dMo_label_4 (by decide) (fun h4 => ?_) (fun h4 => ?_)
  · have hv : mo_label L id = -1 := if_neg h4
    refine zr_iconst (v := (-1)) dMo_label_18 (by decide) ?_
    exact zr_ireturn dMo_label_19 rfl rfl (⟨congrArg (fun x => some (Value.int x)) hv.symm, rfl⟩)
  · obtain ⟨j, hj, rfl⟩ := zf_rng (by decide) h4.1 h4.2
    have hv : mo_label L (nI j) = nI (L j) - nI 1 := (if_pos h4).trans (by rw [nI_clamp (by omega)])
    refine zr_aload_n dMo_label_7 rfl rfl ?_
    refine zr_getf g_Mo_20 dMo_label_8 rfl rfl ?_
    refine zr_iload_n dMo_label_11 rfl ?_
    refine zr_iald dMo_label_12 rfl (by omega) (by decide) ?_
    refine zr_topI (hla j (by omega)).1 ?_
    refine zr_iconst (v := nI 1) dMo_label_13 (by decide) ?_
    refine zr_isub dMo_label_14 ?_
    refine zr_goto (tgt := 19) dMo_label_15 (by decide) ?_
    exact zr_ireturn dMo_label_19 rfl rfl (⟨congrArg (fun x => some (Value.int x)) hv.symm, rfl⟩)
def mo_docs (n : Nat) (L : Nat → Nat) (c : Int32) : Int32 := if c < -1 ∨ ¬ c < nI n then -1 else if c < 0 then nI (mo_size L 32) else nI (mo_sum L c.toNatClampNeg (fun _ => 1) 32)
set_option maxHeartbeats 4000000 in
set_option maxRecDepth 100000 in
theorem c_Mo_docs_all {G : zw_G} {c0 c1 c2 c3 c4 c5 c6 c7 c8 c9 c10 c11 c12 c13 c14 c15 c16 c17 c18 c19 c20 c21 c22 c23 c24 : zw_C} {n ty wo ch : Nat} {tx le la sz wh wt ma bk lf rt : Nat → Int32} {cu co wr : Nat → Int64} {r : zw_W} {L : Nat → Nat} (hla : ∀ i, i < 64 → la i = nI (L i) ∧ L i < 1000) (hn : n ≤ 4) : zw_Met G Y_Mo_documents 0 0 0 [.ref 26, .int (-1)] (c0 :: c1 :: c2 :: c3 :: c4 :: c5 :: c6 :: c7 :: c8 :: c9 :: c10 :: c11 :: c12 :: c13 :: c14 :: c15 :: c16 :: c17 :: c18 :: c19 :: c20 :: c21 :: c22 :: c23 :: c24 :: zk_Mo n ty wo ch :: zk_I 40 tx :: zk_L 20 cu :: zk_I 160 le :: zk_I 64 la :: zk_I 64 sz :: zk_L 1280 co :: zk_I 24 wh :: zk_I 24 wt :: zk_I 24 ma :: zk_I 24 bk :: zk_L 480 wr :: zk_I 50 lf :: zk_I 50 rt :: r) (zw_is (some (.int (nI (mo_size L 32)))) (c0 :: c1 :: c2 :: c3 :: c4 :: c5 :: c6 :: c7 :: c8 :: c9 :: c10 :: c11 :: c12 :: c13 :: c14 :: c15 :: c16 :: c17 :: c18 :: c19 :: c20 :: c21 :: c22 :: c23 :: c24 :: zk_Mo n ty wo ch :: zk_I 40 tx :: zk_L 20 cu :: zk_I 160 le :: zk_I 64 la :: zk_I 64 sz :: zk_L 1280 co :: zk_I 24 wh :: zk_I 24 wt :: zk_I 24 ma :: zk_I 24 bk :: zk_L 480 wr :: zk_I 50 lf :: zk_I 50 rt :: r)) := by
  have key : ∀ k, k ≤ 32 → zw_Z G Y_Mo_documents (zw_R 0 0 0) (fun _ => True) (zw_Q G 0 0 (zw_is (some (.int (nI (mo_size L 32)))) (c0 :: c1 :: c2 :: c3 :: c4 :: c5 :: c6 :: c7 :: c8 :: c9 :: c10 :: c11 :: c12 :: c13 :: c14 :: c15 :: c16 :: c17 :: c18 :: c19 :: c20 :: c21 :: c22 :: c23 :: c24 :: zk_Mo n ty wo ch :: zk_I 40 tx :: zk_L 20 cu :: zk_I 160 le :: zk_I 64 la :: zk_I 64 sz :: zk_L 1280 co :: zk_I 24 wh :: zk_I 24 wt :: zk_I 24 ma :: zk_I 24 bk :: zk_L 480 wr :: zk_I 50 lf :: zk_I 50 rt :: r))) 0 0 19 [some (.ref 26), some (.int (-1)), some (.int (nI (mo_size L k))), some (.int (nI k))] [] (c0 :: c1 :: c2 :: c3 :: c4 :: c5 :: c6 :: c7 :: c8 :: c9 :: c10 :: c11 :: c12 :: c13 :: c14 :: c15 :: c16 :: c17 :: c18 :: c19 :: c20 :: c21 :: c22 :: c23 :: c24 :: zk_Mo n ty wo ch :: zk_I 40 tx :: zk_L 20 cu :: zk_I 160 le :: zk_I 64 la :: zk_I 64 sz :: zk_L 1280 co :: zk_I 24 wh :: zk_I 24 wt :: zk_I 24 ma :: zk_I 24 bk :: zk_L 480 wr :: zk_I 50 lf :: zk_I 50 rt :: r) := by
    refine wz_up 32 (fun k hk ih => ?_) ?_
    · refine zr_iload_n dMo_documents_19 rfl ?_
      refine zr_bipush (v := nI 32) dMo_documents_20 (by decide) ?_
      refine zr_icmp_geN (tgt := 64) (by omega) (by omega) dMo_documents_22 (by decide) (fun h22 => ?_) (fun h22 => ?_)
      · exfalso; omega
      · refine zr_aload_n dMo_documents_25 rfl rfl ?_
        refine zr_getf g_Mo_20 dMo_documents_26 rfl rfl ?_
        refine zr_iload_n dMo_documents_29 rfl ?_
        refine zr_iald dMo_documents_30 rfl (by omega) (by decide) ?_
        refine zr_topI (hla k (by omega)).1 ?_
        refine zr_if_leN (tgt := 56) (by have := (hla k (by omega)).2; omega) dMo_documents_31 (by decide) (fun h31 => ?_) (fun h31 => ?_)
        · rw [mo_size_0 h31] at ih
          refine zr_iload_n dMo_documents_56 rfl ?_
          refine zr_istore_n dMo_documents_57 (by decide) ?_
          refine zr_iinc (v := nI (k + 1)) dMo_documents_58 rfl (nI_1 _) (by decide) ?_
          refine zr_goto (tgt := 19) dMo_documents_61 (by decide) ?_
          exact ih
        · rw [mo_size_1 (k := k) (by omega)] at ih
          refine zr_iload_n dMo_documents_34 rfl ?_
          refine zr_if_lt (tgt := 50) dMo_documents_35 (by decide) (fun h35 => ?_) (fun h35 => ?_)
          · refine zr_iload_n dMo_documents_50 rfl ?_
            refine zr_iconst (v := nI 1) dMo_documents_51 (by decide) ?_
            refine zr_iaddN dMo_documents_52 ?_
            refine zr_goto (tgt := 57) dMo_documents_53 (by decide) ?_
            refine zr_istore_n dMo_documents_57 (by decide) ?_
            refine zr_iinc (v := nI (k + 1)) dMo_documents_58 rfl (nI_1 _) (by decide) ?_
            refine zr_goto (tgt := 19) dMo_documents_61 (by decide) ?_
            exact ih
          · exact absurd (by decide) h35
    · refine zr_iload_n dMo_documents_19 rfl ?_
      refine zr_bipush (v := nI 32) dMo_documents_20 (by decide) ?_
      refine zr_icmp_geN (tgt := 64) (by omega) (by omega) dMo_documents_22 (by decide) (fun h22 => ?_) (fun h22 => ?_)
      · refine zr_iload_n dMo_documents_64 rfl ?_
        exact zr_ireturn dMo_documents_65 rfl rfl (⟨rfl, rfl⟩)
      · exfalso; omega
  show zw_Z G Y_Mo_documents _ _ _ 0 0 0 [some (.ref 26), some (.int (-1)), none, none] [] _
  refine zr_iload_n dMo_documents_0 rfl ?_
  refine zr_iconst (v := (-1)) dMo_documents_1 (by decide) ?_
  refine zr_icmp_lt (tgt := 13) dMo_documents_2 (by decide) (fun h2 => ?_) (fun h2 => ?_)
  · exact absurd h2 (by decide)
  · refine zr_iload_n dMo_documents_5 rfl ?_
    refine zr_aload_n dMo_documents_6 rfl rfl ?_
    refine zr_getf g_Mo_50 dMo_documents_7 rfl rfl ?_
    refine zr_icmp_lt (tgt := 15) dMo_documents_10 (by decide) (fun h10 => ?_) (fun h10 => ?_)
    · refine zr_iconst (v := nI 0) dMo_documents_15 (by decide) ?_
      refine zr_istore_n dMo_documents_16 (by decide) ?_
      refine zr_iconst (v := nI 0) dMo_documents_17 (by decide) ?_
      refine zr_istore_n dMo_documents_18 (by decide) ?_
      exact key 0 (Nat.zero_le 32)
    · exact absurd (Int32.lt_of_lt_of_le (by decide) (nI_pos' (by omega))) h10
set_option maxHeartbeats 4000000 in
set_option maxRecDepth 100000 in
theorem c_Mo_docs_of {G : zw_G} {c0 c1 c2 c3 c4 c5 c6 c7 c8 c9 c10 c11 c12 c13 c14 c15 c16 c17 c18 c19 c20 c21 c22 c23 c24 : zw_C} {n ty wo ch : Nat} {tx le la sz wh wt ma bk lf rt : Nat → Int32} {cu co wr : Nat → Int64} {r : zw_W} {L : Nat → Nat} (hla : ∀ i, i < 64 → la i = nI (L i) ∧ L i < 1000) {c : Nat} (hn : n ≤ 4) (hc : c < n) : zw_Met G Y_Mo_documents 0 0 0 [.ref 26, .int (nI c)] (c0 :: c1 :: c2 :: c3 :: c4 :: c5 :: c6 :: c7 :: c8 :: c9 :: c10 :: c11 :: c12 :: c13 :: c14 :: c15 :: c16 :: c17 :: c18 :: c19 :: c20 :: c21 :: c22 :: c23 :: c24 :: zk_Mo n ty wo ch :: zk_I 40 tx :: zk_L 20 cu :: zk_I 160 le :: zk_I 64 la :: zk_I 64 sz :: zk_L 1280 co :: zk_I 24 wh :: zk_I 24 wt :: zk_I 24 ma :: zk_I 24 bk :: zk_L 480 wr :: zk_I 50 lf :: zk_I 50 rt :: r) (zw_is (some (.int (nI (mo_sum L c (fun _ => 1) 32)))) (c0 :: c1 :: c2 :: c3 :: c4 :: c5 :: c6 :: c7 :: c8 :: c9 :: c10 :: c11 :: c12 :: c13 :: c14 :: c15 :: c16 :: c17 :: c18 :: c19 :: c20 :: c21 :: c22 :: c23 :: c24 :: zk_Mo n ty wo ch :: zk_I 40 tx :: zk_L 20 cu :: zk_I 160 le :: zk_I 64 la :: zk_I 64 sz :: zk_L 1280 co :: zk_I 24 wh :: zk_I 24 wt :: zk_I 24 ma :: zk_I 24 bk :: zk_L 480 wr :: zk_I 50 lf :: zk_I 50 rt :: r)) := by
  have key : ∀ k, k ≤ 32 → zw_Z G Y_Mo_documents (zw_R 0 0 0) (fun _ => True) (zw_Q G 0 0 (zw_is (some (.int (nI (mo_sum L c (fun _ => 1) 32)))) (c0 :: c1 :: c2 :: c3 :: c4 :: c5 :: c6 :: c7 :: c8 :: c9 :: c10 :: c11 :: c12 :: c13 :: c14 :: c15 :: c16 :: c17 :: c18 :: c19 :: c20 :: c21 :: c22 :: c23 :: c24 :: zk_Mo n ty wo ch :: zk_I 40 tx :: zk_L 20 cu :: zk_I 160 le :: zk_I 64 la :: zk_I 64 sz :: zk_L 1280 co :: zk_I 24 wh :: zk_I 24 wt :: zk_I 24 ma :: zk_I 24 bk :: zk_L 480 wr :: zk_I 50 lf :: zk_I 50 rt :: r))) 0 0 19 [some (.ref 26), some (.int (nI c)), some (.int (nI (mo_sum L c (fun _ => 1) k))), some (.int (nI k))] [] (c0 :: c1 :: c2 :: c3 :: c4 :: c5 :: c6 :: c7 :: c8 :: c9 :: c10 :: c11 :: c12 :: c13 :: c14 :: c15 :: c16 :: c17 :: c18 :: c19 :: c20 :: c21 :: c22 :: c23 :: c24 :: zk_Mo n ty wo ch :: zk_I 40 tx :: zk_L 20 cu :: zk_I 160 le :: zk_I 64 la :: zk_I 64 sz :: zk_L 1280 co :: zk_I 24 wh :: zk_I 24 wt :: zk_I 24 ma :: zk_I 24 bk :: zk_L 480 wr :: zk_I 50 lf :: zk_I 50 rt :: r) := by
    refine wz_up 32 (fun k hk ih => ?_) ?_
    · refine zr_iload_n dMo_documents_19 rfl ?_
      refine zr_bipush (v := nI 32) dMo_documents_20 (by decide) ?_
      refine zr_icmp_geN (tgt := 64) (by omega) (by omega) dMo_documents_22 (by decide) (fun h22 => ?_) (fun h22 => ?_)
      · exfalso; omega
      · refine zr_aload_n dMo_documents_25 rfl rfl ?_
        refine zr_getf g_Mo_20 dMo_documents_26 rfl rfl ?_
        refine zr_iload_n dMo_documents_29 rfl ?_
        refine zr_iald dMo_documents_30 rfl (by omega) (by decide) ?_
        refine zr_topI (hla k (by omega)).1 ?_
        refine zr_if_leN (tgt := 56) (by have := (hla k (by omega)).2; omega) dMo_documents_31 (by decide) (fun h31 => ?_) (fun h31 => ?_)
        · rw [mo_sum_0 (k := k) (by omega)] at ih
          refine zr_iload_n dMo_documents_56 rfl ?_
          refine zr_istore_n dMo_documents_57 (by decide) ?_
          refine zr_iinc (v := nI (k + 1)) dMo_documents_58 rfl (nI_1 _) (by decide) ?_
          refine zr_goto (tgt := 19) dMo_documents_61 (by decide) ?_
          exact ih
        · refine zr_iload_n dMo_documents_34 rfl ?_
          refine zr_if_ltN (tgt := 50) (by omega) dMo_documents_35 (by decide) (fun h35 => ?_) (fun h35 => ?_)
          · exact h35.elim
          · refine zr_aload_n dMo_documents_38 rfl rfl ?_
            refine zr_getf g_Mo_20 dMo_documents_39 rfl rfl ?_
            refine zr_iload_n dMo_documents_42 rfl ?_
            refine zr_iald dMo_documents_43 rfl (by omega) (by decide) ?_
            refine zr_topI (hla k (by omega)).1 ?_
            refine zr_iload_n dMo_documents_44 rfl ?_
            refine zr_iconst (v := nI 1) dMo_documents_45 (by decide) ?_
            refine zr_iaddN dMo_documents_46 ?_
            refine zr_icmp_neN (tgt := 56) (by have := (hla k (by omega)).2; omega) (by omega) dMo_documents_47 (by decide) (fun h47 => ?_) (fun h47 => ?_)
            · rw [mo_sum_0 h47] at ih
              refine zr_iload_n dMo_documents_56 rfl ?_
              refine zr_istore_n dMo_documents_57 (by decide) ?_
              refine zr_iinc (v := nI (k + 1)) dMo_documents_58 rfl (nI_1 _) (by decide) ?_
              refine zr_goto (tgt := 19) dMo_documents_61 (by decide) ?_
              exact ih
            · rw [mo_sum_1 h47] at ih
              refine zr_iload_n dMo_documents_50 rfl ?_
              refine zr_iconst (v := nI 1) dMo_documents_51 (by decide) ?_
              refine zr_iaddN dMo_documents_52 ?_
              refine zr_goto (tgt := 57) dMo_documents_53 (by decide) ?_
              refine zr_istore_n dMo_documents_57 (by decide) ?_
              refine zr_iinc (v := nI (k + 1)) dMo_documents_58 rfl (nI_1 _) (by decide) ?_
              refine zr_goto (tgt := 19) dMo_documents_61 (by decide) ?_
              exact ih
    · refine zr_iload_n dMo_documents_19 rfl ?_
      refine zr_bipush (v := nI 32) dMo_documents_20 (by decide) ?_
      refine zr_icmp_geN (tgt := 64) (by omega) (by omega) dMo_documents_22 (by decide) (fun h22 => ?_) (fun h22 => ?_)
      · refine zr_iload_n dMo_documents_64 rfl ?_
        exact zr_ireturn dMo_documents_65 rfl rfl (⟨rfl, rfl⟩)
      · exfalso; omega
  show zw_Z G Y_Mo_documents _ _ _ 0 0 0 [some (.ref 26), some (.int (nI c)), none, none] [] _
  refine zr_iload_n dMo_documents_0 rfl ?_
  refine zr_iconst (v := (-1)) dMo_documents_1 (by decide) ?_
  refine zr_icmp_lt (tgt := 13) dMo_documents_2 (by decide) (fun h2 => ?_) (fun h2 => ?_)
  · exact absurd (Int32.lt_trans h2 (by decide)) (nI_pos (by omega))
  · refine zr_iload_n dMo_documents_5 rfl ?_
    refine zr_aload_n dMo_documents_6 rfl rfl ?_
    refine zr_getf g_Mo_50 dMo_documents_7 rfl rfl ?_
    refine zr_icmp_ltN (tgt := 15) (by omega) (by omega) dMo_documents_10 (by decide) (fun h10 => ?_) (fun h10 => ?_)
    · refine zr_iconst (v := nI 0) dMo_documents_15 (by decide) ?_
      refine zr_istore_n dMo_documents_16 (by decide) ?_
      refine zr_iconst (v := nI 0) dMo_documents_17 (by decide) ?_
      refine zr_istore_n dMo_documents_18 (by decide) ?_
      exact key 0 (Nat.zero_le 32)
    · exfalso; omega
set_option maxHeartbeats 4000000 in
set_option maxRecDepth 100000 in
theorem c_Mo_docs_no {G : zw_G} {c0 c1 c2 c3 c4 c5 c6 c7 c8 c9 c10 c11 c12 c13 c14 c15 c16 c17 c18 c19 c20 c21 c22 c23 c24 : zw_C} {n ty wo ch : Nat} {tx le la sz wh wt ma bk lf rt : Nat → Int32} {cu co wr : Nat → Int64} {r : zw_W} {c : Int32} (hc : c < -1 ∨ ¬ c < nI n) : zw_Met G Y_Mo_documents 0 0 0 [.ref 26, .int c] ((c0 :: c1 :: c2 :: c3 :: c4 :: c5 :: c6 :: c7 :: c8 :: c9 :: c10 :: c11 :: c12 :: c13 :: c14 :: c15 :: c16 :: c17 :: c18 :: c19 :: c20 :: c21 :: c22 :: c23 :: c24 :: zk_Mo n ty wo ch :: zk_I 40 tx :: zk_L 20 cu :: zk_I 160 le :: zk_I 64 la :: zk_I 64 sz :: zk_L 1280 co :: zk_I 24 wh :: zk_I 24 wt :: zk_I 24 ma :: zk_I 24 bk :: zk_L 480 wr :: zk_I 50 lf :: zk_I 50 rt :: r)) (zw_is (some (.int (-1))) (c0 :: c1 :: c2 :: c3 :: c4 :: c5 :: c6 :: c7 :: c8 :: c9 :: c10 :: c11 :: c12 :: c13 :: c14 :: c15 :: c16 :: c17 :: c18 :: c19 :: c20 :: c21 :: c22 :: c23 :: c24 :: zk_Mo n ty wo ch :: zk_I 40 tx :: zk_L 20 cu :: zk_I 160 le :: zk_I 64 la :: zk_I 64 sz :: zk_L 1280 co :: zk_I 24 wh :: zk_I 24 wt :: zk_I 24 ma :: zk_I 24 bk :: zk_L 480 wr :: zk_I 50 lf :: zk_I 50 rt :: r)) := by
  show zw_Z G Y_Mo_documents _ _ _ 0 0 0 [some (.ref 26), some (.int c), none, none] [] _
  refine zr_iload_n dMo_documents_0 rfl ?_
  refine zr_iconst (v := (-1)) dMo_documents_1 (by decide) ?_
  refine zr_icmp_lt (tgt := 13) dMo_documents_2 (by decide) (fun h2 => ?_) (fun h2 => ?_)
  · refine zr_iconst (v := (-1)) dMo_documents_13 (by decide) ?_
    exact zr_ireturn dMo_documents_14 rfl rfl (⟨rfl, rfl⟩)
  · refine zr_iload_n dMo_documents_5 rfl ?_
    refine zr_aload_n dMo_documents_6 rfl rfl ?_
    refine zr_getf g_Mo_50 dMo_documents_7 rfl rfl ?_
    refine zr_icmp_lt (tgt := 15) dMo_documents_10 (by decide) (fun h10 => ?_) (fun h10 => ?_)
    · exact absurd hc (fun q => q.elim h2 (fun z => z h10))
    · refine zr_iconst (v := (-1)) dMo_documents_13 (by decide) ?_
      exact zr_ireturn dMo_documents_14 rfl rfl (⟨rfl, rfl⟩)
def mo_total (n : Nat) (L Z : Nat → Nat) (c : Int32) : Int32 := if ¬ c < 0 ∧ c < nI n then nI (mo_sum L c.toNatClampNeg Z 32) else -1
set_option maxHeartbeats 4000000 in
set_option maxRecDepth 100000 in
theorem c_Mo_total_of {G : zw_G} {c0 c1 c2 c3 c4 c5 c6 c7 c8 c9 c10 c11 c12 c13 c14 c15 c16 c17 c18 c19 c20 c21 c22 c23 c24 : zw_C} {n ty wo ch : Nat} {tx le la sz wh wt ma bk lf rt : Nat → Int32} {cu co wr : Nat → Int64} {r : zw_W} {L : Nat → Nat} (hla : ∀ i, i < 64 → la i = nI (L i) ∧ L i < 1000) {Z : Nat → Nat} (hsz : ∀ i, i < 64 → sz i = nI (Z i) ∧ Z i ≤ 20) {c : Nat} (hn : n ≤ 4) (hc : c < n) : zw_Met G Y_Mo_total 1 0 0 [.ref 26, .int (nI c)] (c0 :: c1 :: c2 :: c3 :: c4 :: c5 :: c6 :: c7 :: c8 :: c9 :: c10 :: c11 :: c12 :: c13 :: c14 :: c15 :: c16 :: c17 :: c18 :: c19 :: c20 :: c21 :: c22 :: c23 :: c24 :: zk_Mo n ty wo ch :: zk_I 40 tx :: zk_L 20 cu :: zk_I 160 le :: zk_I 64 la :: zk_I 64 sz :: zk_L 1280 co :: zk_I 24 wh :: zk_I 24 wt :: zk_I 24 ma :: zk_I 24 bk :: zk_L 480 wr :: zk_I 50 lf :: zk_I 50 rt :: r) (zw_is (some (.int (nI (mo_sum L c Z 32)))) (c0 :: c1 :: c2 :: c3 :: c4 :: c5 :: c6 :: c7 :: c8 :: c9 :: c10 :: c11 :: c12 :: c13 :: c14 :: c15 :: c16 :: c17 :: c18 :: c19 :: c20 :: c21 :: c22 :: c23 :: c24 :: zk_Mo n ty wo ch :: zk_I 40 tx :: zk_L 20 cu :: zk_I 160 le :: zk_I 64 la :: zk_I 64 sz :: zk_L 1280 co :: zk_I 24 wh :: zk_I 24 wt :: zk_I 24 ma :: zk_I 24 bk :: zk_L 480 wr :: zk_I 50 lf :: zk_I 50 rt :: r)) := by
  have key : ∀ k, k ≤ 32 → zw_Z G Y_Mo_total (zw_R 1 0 0) (fun _ => True) (zw_Q G 0 0 (zw_is (some (.int (nI (mo_sum L c Z 32)))) (c0 :: c1 :: c2 :: c3 :: c4 :: c5 :: c6 :: c7 :: c8 :: c9 :: c10 :: c11 :: c12 :: c13 :: c14 :: c15 :: c16 :: c17 :: c18 :: c19 :: c20 :: c21 :: c22 :: c23 :: c24 :: zk_Mo n ty wo ch :: zk_I 40 tx :: zk_L 20 cu :: zk_I 160 le :: zk_I 64 la :: zk_I 64 sz :: zk_L 1280 co :: zk_I 24 wh :: zk_I 24 wt :: zk_I 24 ma :: zk_I 24 bk :: zk_L 480 wr :: zk_I 50 lf :: zk_I 50 rt :: r))) 0 0 14 [some (.ref 26), some (.int (nI c)), some (.int (nI (mo_sum L c Z k))), some (.int (nI k))] [] (c0 :: c1 :: c2 :: c3 :: c4 :: c5 :: c6 :: c7 :: c8 :: c9 :: c10 :: c11 :: c12 :: c13 :: c14 :: c15 :: c16 :: c17 :: c18 :: c19 :: c20 :: c21 :: c22 :: c23 :: c24 :: zk_Mo n ty wo ch :: zk_I 40 tx :: zk_L 20 cu :: zk_I 160 le :: zk_I 64 la :: zk_I 64 sz :: zk_L 1280 co :: zk_I 24 wh :: zk_I 24 wt :: zk_I 24 ma :: zk_I 24 bk :: zk_L 480 wr :: zk_I 50 lf :: zk_I 50 rt :: r) := by
    refine wz_up 32 (fun k hk ih => ?_) ?_
    · refine zr_iload_n dMo_total_14 rfl ?_
      refine zr_bipush (v := nI 32) dMo_total_15 (by decide) ?_
      refine zr_icmp_geN (tgt := 51) (by omega) (by omega) dMo_total_17 (by decide) (fun h17 => ?_) (fun h17 => ?_)
      · exfalso; omega
      · refine zr_aload_n dMo_total_20 rfl rfl ?_
        refine zr_getf g_Mo_20 dMo_total_21 rfl rfl ?_
        refine zr_iload_n dMo_total_24 rfl ?_
        refine zr_iald dMo_total_25 rfl (by omega) (by decide) ?_
        refine zr_topI (hla k (by omega)).1 ?_
        refine zr_iload_n dMo_total_26 rfl ?_
        refine zr_iconst (v := nI 1) dMo_total_27 (by decide) ?_
        refine zr_iaddN dMo_total_28 ?_
        refine zr_icmp_neN (tgt := 43) (by have := (hla k (by omega)).2; omega) (by omega) dMo_total_29 (by decide) (fun h29 => ?_) (fun h29 => ?_)
        · rw [mo_sum_0 h29] at ih
          refine zr_iload_n dMo_total_43 rfl ?_
          refine zr_istore_n dMo_total_44 (by decide) ?_
          refine zr_iinc (v := nI (k + 1)) dMo_total_45 rfl (nI_1 _) (by decide) ?_
          refine zr_goto (tgt := 14) dMo_total_48 (by decide) ?_
          exact ih
        · rw [mo_sum_1 h29] at ih
          refine zr_iload_n dMo_total_32 rfl ?_
          refine zr_aload_n dMo_total_33 rfl rfl ?_
          refine zr_getf g_Mo_23 dMo_total_34 rfl rfl ?_
          refine zr_iload_n dMo_total_37 rfl ?_
          refine zr_iald dMo_total_38 rfl (by omega) (by decide) ?_
          refine zr_topI (hsz k (by omega)).1 ?_
          refine zr_iaddN dMo_total_39 ?_
          refine zr_goto (tgt := 44) dMo_total_40 (by decide) ?_
          refine zr_istore_n dMo_total_44 (by decide) ?_
          refine zr_iinc (v := nI (k + 1)) dMo_total_45 rfl (nI_1 _) (by decide) ?_
          refine zr_goto (tgt := 14) dMo_total_48 (by decide) ?_
          exact ih
    · refine zr_iload_n dMo_total_14 rfl ?_
      refine zr_bipush (v := nI 32) dMo_total_15 (by decide) ?_
      refine zr_icmp_geN (tgt := 51) (by omega) (by omega) dMo_total_17 (by decide) (fun h17 => ?_) (fun h17 => ?_)
      · refine zr_iload_n dMo_total_51 rfl ?_
        exact zr_ireturn dMo_total_52 rfl rfl (⟨rfl, rfl⟩)
      · exfalso; omega
  show zw_Z G Y_Mo_total _ _ _ 0 0 0 [some (.ref 26), some (.int (nI c)), none, none] [] _
  refine zr_aload_n dMo_total_0 rfl rfl ?_
  refine zr_iload_n dMo_total_1 rfl ?_
  refine zr_invV (c_Mo_isClass (i := 25) rfl) m_Mo_isClass k_Mo_95 v_Mo_isClass rfl rfl dMo_total_2 rfl (Nat.le_of_ble_eq_true rfl) (by decide) (Nat.le_of_ble_eq_true rfl) rfl (fun v w2 hp => ?_)
  obtain ⟨rfl, rfl⟩ := hp
  refine ⟨rfl, ?_⟩
  refine zr_if_neB (tgt := 10) dMo_total_5 (by decide) (fun h5 => ?_) (fun h5 => ?_)
  · refine zr_iconst (v := nI 0) dMo_total_10 (by decide) ?_
    refine zr_istore_n dMo_total_11 (by decide) ?_
    refine zr_iconst (v := nI 0) dMo_total_12 (by decide) ?_
    refine zr_istore_n dMo_total_13 (by decide) ?_
    exact key 0 (Nat.zero_le 32)
  · exact absurd ⟨nI_pos (by omega), nI_lt hc (by omega)⟩ h5
set_option maxHeartbeats 4000000 in
set_option maxRecDepth 100000 in
theorem c_Mo_total {G : zw_G} {c0 c1 c2 c3 c4 c5 c6 c7 c8 c9 c10 c11 c12 c13 c14 c15 c16 c17 c18 c19 c20 c21 c22 c23 c24 : zw_C} {n ty wo ch : Nat} {tx le la sz wh wt ma bk lf rt : Nat → Int32} {cu co wr : Nat → Int64} {r : zw_W} {L : Nat → Nat} (hla : ∀ i, i < 64 → la i = nI (L i) ∧ L i < 1000) {Z : Nat → Nat} (hsz : ∀ i, i < 64 → sz i = nI (Z i) ∧ Z i ≤ 20) {c : Int32} (hn : n ≤ 4) : zw_Met G Y_Mo_total 1 0 0 [.ref 26, .int c] (c0 :: c1 :: c2 :: c3 :: c4 :: c5 :: c6 :: c7 :: c8 :: c9 :: c10 :: c11 :: c12 :: c13 :: c14 :: c15 :: c16 :: c17 :: c18 :: c19 :: c20 :: c21 :: c22 :: c23 :: c24 :: zk_Mo n ty wo ch :: zk_I 40 tx :: zk_L 20 cu :: zk_I 160 le :: zk_I 64 la :: zk_I 64 sz :: zk_L 1280 co :: zk_I 24 wh :: zk_I 24 wt :: zk_I 24 ma :: zk_I 24 bk :: zk_L 480 wr :: zk_I 50 lf :: zk_I 50 rt :: r) (zw_is (some (.int (mo_total n L Z c))) (c0 :: c1 :: c2 :: c3 :: c4 :: c5 :: c6 :: c7 :: c8 :: c9 :: c10 :: c11 :: c12 :: c13 :: c14 :: c15 :: c16 :: c17 :: c18 :: c19 :: c20 :: c21 :: c22 :: c23 :: c24 :: zk_Mo n ty wo ch :: zk_I 40 tx :: zk_L 20 cu :: zk_I 160 le :: zk_I 64 la :: zk_I 64 sz :: zk_L 1280 co :: zk_I 24 wh :: zk_I 24 wt :: zk_I 24 ma :: zk_I 24 bk :: zk_L 480 wr :: zk_I 50 lf :: zk_I 50 rt :: r)) := by
  by_cases h : ¬ c < 0 ∧ c < nI n
  · obtain ⟨j, hj, rfl⟩ := zf_rng (by omega) h.1 h.2
    have hv : mo_total n L Z (nI j) = nI (mo_sum L j Z 32) := (if_pos h).trans (by rw [nI_clamp (by omega)])
    rw [hv]
    exact c_Mo_total_of hla hsz hn hj
  · have hv : mo_total n L Z c = -1 := if_neg h
    rw [hv]
    show zw_Z G Y_Mo_total _ _ _ 0 0 0 [some (.ref 26), some (.int c), none, none] [] _
    refine zr_aload_n dMo_total_0 rfl rfl ?_
    refine zr_iload_n dMo_total_1 rfl ?_
    refine zr_invV (c_Mo_isClass (i := 25) rfl) m_Mo_isClass k_Mo_95 v_Mo_isClass rfl rfl dMo_total_2 rfl (Nat.le_of_ble_eq_true rfl) (by decide) (Nat.le_of_ble_eq_true rfl) rfl (fun v w2 hp => ?_)
    obtain ⟨rfl, rfl⟩ := hp
    refine ⟨rfl, ?_⟩
    refine zr_if_neB (tgt := 10) dMo_total_5 (by decide) (fun h5 => ?_) (fun h5 => ?_)
    · exact absurd h5 h
    · refine zr_iconst (v := (-1)) dMo_total_8 (by decide) ?_
      exact zr_ireturn dMo_total_9 rfl rfl (⟨rfl, rfl⟩)
def mo_often (L Z : Nat → Nat) (co : Nat → Int64) (c : Nat) (x : Int64) : Nat := mo_sum L c (fun id => wn_sum (fun j => if co (20 * id + j) = x then 1 else 0) (Z id)) 32
set_option maxHeartbeats 4000000 in
set_option maxRecDepth 100000 in
theorem c_Mo_howOften {G : zw_G} {c0 c1 c2 c3 c4 c5 c6 c7 c8 c9 c10 c11 c12 c13 c14 c15 c16 c17 c18 c19 c20 c21 c22 c23 c24 : zw_C} {n ty wo ch : Nat} {tx le la sz wh wt ma bk lf rt : Nat → Int32} {cu co wr : Nat → Int64} {r : zw_W} {L : Nat → Nat} (hla : ∀ i, i < 64 → la i = nI (L i) ∧ L i < 1000) {Z : Nat → Nat} (hsz : ∀ i, i < 64 → sz i = nI (Z i) ∧ Z i ≤ 20) {c : Nat} {x : Int64} (hc : c < 4) : zw_Met G Y_Mo_howOften 0 0 0 [.ref 26, .int (nI c), .long x] (c0 :: c1 :: c2 :: c3 :: c4 :: c5 :: c6 :: c7 :: c8 :: c9 :: c10 :: c11 :: c12 :: c13 :: c14 :: c15 :: c16 :: c17 :: c18 :: c19 :: c20 :: c21 :: c22 :: c23 :: c24 :: zk_Mo n ty wo ch :: zk_I 40 tx :: zk_L 20 cu :: zk_I 160 le :: zk_I 64 la :: zk_I 64 sz :: zk_L 1280 co :: zk_I 24 wh :: zk_I 24 wt :: zk_I 24 ma :: zk_I 24 bk :: zk_L 480 wr :: zk_I 50 lf :: zk_I 50 rt :: r) (zw_is (some (.int (nI (mo_often L Z co c x)))) (c0 :: c1 :: c2 :: c3 :: c4 :: c5 :: c6 :: c7 :: c8 :: c9 :: c10 :: c11 :: c12 :: c13 :: c14 :: c15 :: c16 :: c17 :: c18 :: c19 :: c20 :: c21 :: c22 :: c23 :: c24 :: zk_Mo n ty wo ch :: zk_I 40 tx :: zk_L 20 cu :: zk_I 160 le :: zk_I 64 la :: zk_I 64 sz :: zk_L 1280 co :: zk_I 24 wh :: zk_I 24 wt :: zk_I 24 ma :: zk_I 24 bk :: zk_L 480 wr :: zk_I 50 lf :: zk_I 50 rt :: r)) := by
  have keyo : ∀ k, k ≤ 32 → zw_Z G Y_Mo_howOften (zw_R 0 0 0) (fun _ => True) (zw_Q G 0 0 (zw_is (some (.int (nI (mo_often L Z co c x)))) (c0 :: c1 :: c2 :: c3 :: c4 :: c5 :: c6 :: c7 :: c8 :: c9 :: c10 :: c11 :: c12 :: c13 :: c14 :: c15 :: c16 :: c17 :: c18 :: c19 :: c20 :: c21 :: c22 :: c23 :: c24 :: zk_Mo n ty wo ch :: zk_I 40 tx :: zk_L 20 cu :: zk_I 160 le :: zk_I 64 la :: zk_I 64 sz :: zk_L 1280 co :: zk_I 24 wh :: zk_I 24 wt :: zk_I 24 ma :: zk_I 24 bk :: zk_L 480 wr :: zk_I 50 lf :: zk_I 50 rt :: r))) 0 0 6 [some (.ref 26), some (.int (nI c)), some (.long x), none, some (.int (nI (mo_sum L c (fun id => wn_sum (fun j => if co (20 * id + j) = x then 1 else 0) (Z id)) k))), some (.int (nI k)), none] [] (c0 :: c1 :: c2 :: c3 :: c4 :: c5 :: c6 :: c7 :: c8 :: c9 :: c10 :: c11 :: c12 :: c13 :: c14 :: c15 :: c16 :: c17 :: c18 :: c19 :: c20 :: c21 :: c22 :: c23 :: c24 :: zk_Mo n ty wo ch :: zk_I 40 tx :: zk_L 20 cu :: zk_I 160 le :: zk_I 64 la :: zk_I 64 sz :: zk_L 1280 co :: zk_I 24 wh :: zk_I 24 wt :: zk_I 24 ma :: zk_I 24 bk :: zk_L 480 wr :: zk_I 50 lf :: zk_I 50 rt :: r) := by
    refine wz_up 32 (fun k hk ih => ?_) ?_
    · refine zr_iload dMo_howOften_6 rfl ?_
      refine zr_bipush (v := nI 32) dMo_howOften_8 (by decide) ?_
      refine zr_icmp_geN (tgt := 82) (by omega) (by omega) dMo_howOften_10 (by decide) (fun h10 => ?_) (fun h10 => ?_)
      · exfalso; omega
      · refine zr_iconst (v := nI 0) dMo_howOften_13 (by decide) ?_
        refine zr_istore dMo_howOften_14 (by decide) ?_
        have hzk := (hsz k (by omega)).2
        by_cases hLc : L k = c + 1
        · have key : ∀ j, j ≤ (Z k) → zw_Z G Y_Mo_howOften (zw_R 0 0 0) (fun _ => True) (zw_Q G 0 0 (zw_is (some (.int (nI (mo_often L Z co c x)))) (c0 :: c1 :: c2 :: c3 :: c4 :: c5 :: c6 :: c7 :: c8 :: c9 :: c10 :: c11 :: c12 :: c13 :: c14 :: c15 :: c16 :: c17 :: c18 :: c19 :: c20 :: c21 :: c22 :: c23 :: c24 :: zk_Mo n ty wo ch :: zk_I 40 tx :: zk_L 20 cu :: zk_I 160 le :: zk_I 64 la :: zk_I 64 sz :: zk_L 1280 co :: zk_I 24 wh :: zk_I 24 wt :: zk_I 24 ma :: zk_I 24 bk :: zk_L 480 wr :: zk_I 50 lf :: zk_I 50 rt :: r))) 0 0 16 [some (.ref 26), some (.int (nI c)), some (.long x), none, some (.int (nI (mo_sum L c (fun id => wn_sum (fun j => if co (20 * id + j) = x then 1 else 0) (Z id)) k + wn_sum (fun j => if co (20 * k + j) = x then 1 else 0) j))), some (.int (nI k)), some (.int (nI j))] [] (c0 :: c1 :: c2 :: c3 :: c4 :: c5 :: c6 :: c7 :: c8 :: c9 :: c10 :: c11 :: c12 :: c13 :: c14 :: c15 :: c16 :: c17 :: c18 :: c19 :: c20 :: c21 :: c22 :: c23 :: c24 :: zk_Mo n ty wo ch :: zk_I 40 tx :: zk_L 20 cu :: zk_I 160 le :: zk_I 64 la :: zk_I 64 sz :: zk_L 1280 co :: zk_I 24 wh :: zk_I 24 wt :: zk_I 24 ma :: zk_I 24 bk :: zk_L 480 wr :: zk_I 50 lf :: zk_I 50 rt :: r) := by
            refine wz_up (Z k) (fun j hkj ihj => ?_) ?_
            · refine zr_iload dMo_howOften_16 rfl ?_
              refine zr_aload_n dMo_howOften_18 rfl rfl ?_
              refine zr_getf g_Mo_23 dMo_howOften_19 rfl rfl ?_
              refine zr_iload dMo_howOften_22 rfl ?_
              refine zr_iald dMo_howOften_24 rfl (by omega) (by decide) ?_
              refine zr_topI (hsz k (by omega)).1 ?_
              refine zr_icmp_geN (tgt := 76) (by omega) (by omega) dMo_howOften_25 (by decide) (fun h25 => ?_) (fun h25 => ?_)
              · exfalso; omega
              · refine zr_aload_n dMo_howOften_28 rfl rfl ?_
                refine zr_getf g_Mo_20 dMo_howOften_29 rfl rfl ?_
                refine zr_iload dMo_howOften_32 rfl ?_
                refine zr_iald dMo_howOften_34 rfl (by omega) (by decide) ?_
                refine zr_topI (hla k (by omega)).1 ?_
                refine zr_iload_n dMo_howOften_35 rfl ?_
                refine zr_iconst (v := nI 1) dMo_howOften_36 (by decide) ?_
                refine zr_iaddN dMo_howOften_37 ?_
                refine zr_icmp_neN (tgt := 66) (by have := (hla k (by omega)).2; omega) (by omega) dMo_howOften_38 (by decide) (fun h38 => ?_) (fun h38 => ?_)
                · exact absurd hLc h38
                · refine zr_aload_n dMo_howOften_41 rfl rfl ?_
                  refine zr_getf g_Mo_26 dMo_howOften_42 rfl rfl ?_
                  refine zr_bipush (v := nI 20) dMo_howOften_45 (by decide) ?_
                  refine zr_iload dMo_howOften_47 rfl ?_
                  refine zr_imulN dMo_howOften_49 ?_
                  refine zr_iload dMo_howOften_50 rfl ?_
                  refine zr_iaddN dMo_howOften_52 ?_
                  refine zr_lald dMo_howOften_53 rfl (by omega) (by decide) ?_
                  refine zr_lload_n dMo_howOften_54 rfl ?_
                  refine zr_lcmp_ne (tgt := 66) dMo_howOften_55 dMo_howOften_56 (by decide) (fun h55 => ?_) (fun h55 => ?_)
                  · rw [wn_sum, if_neg h55, Nat.add_zero] at ihj
                    refine zr_iload dMo_howOften_66 rfl ?_
                    refine zr_istore dMo_howOften_68 (by decide) ?_
                    refine zr_iinc (v := nI (j + 1)) dMo_howOften_70 rfl (nI_1 _) (by decide) ?_
                    refine zr_goto (tgt := 16) dMo_howOften_73 (by decide) ?_
                    exact ihj
                  · rw [wn_sum, if_pos h55, ← Nat.add_assoc] at ihj
                    refine zr_iload dMo_howOften_59 rfl ?_
                    refine zr_iconst (v := nI 1) dMo_howOften_61 (by decide) ?_
                    refine zr_iaddN dMo_howOften_62 ?_
                    refine zr_goto (tgt := 68) dMo_howOften_63 (by decide) ?_
                    refine zr_istore dMo_howOften_68 (by decide) ?_
                    refine zr_iinc (v := nI (j + 1)) dMo_howOften_70 rfl (nI_1 _) (by decide) ?_
                    refine zr_goto (tgt := 16) dMo_howOften_73 (by decide) ?_
                    exact ihj
            · refine zr_iload dMo_howOften_16 rfl ?_
              refine zr_aload_n dMo_howOften_18 rfl rfl ?_
              refine zr_getf g_Mo_23 dMo_howOften_19 rfl rfl ?_
              refine zr_iload dMo_howOften_22 rfl ?_
              refine zr_iald dMo_howOften_24 rfl (by omega) (by decide) ?_
              refine zr_topI (hsz k (by omega)).1 ?_
              refine zr_icmp_geN (tgt := 76) (by omega) (by omega) dMo_howOften_25 (by decide) (fun h25 => ?_) (fun h25 => ?_)
              · refine zr_iinc (v := nI (k + 1)) dMo_howOften_76 rfl (nI_1 _) (by decide) ?_
                refine zr_goto (tgt := 6) dMo_howOften_79 (by decide) ?_
                rw [mo_sum_1 hLc] at ih
                exact zr_mask [true, true, true, true, true, true, false] ih
              · exfalso; omega
          exact key 0 (Nat.zero_le _)
        · have key : ∀ j, j ≤ (Z k) → zw_Z G Y_Mo_howOften (zw_R 0 0 0) (fun _ => True) (zw_Q G 0 0 (zw_is (some (.int (nI (mo_often L Z co c x)))) (c0 :: c1 :: c2 :: c3 :: c4 :: c5 :: c6 :: c7 :: c8 :: c9 :: c10 :: c11 :: c12 :: c13 :: c14 :: c15 :: c16 :: c17 :: c18 :: c19 :: c20 :: c21 :: c22 :: c23 :: c24 :: zk_Mo n ty wo ch :: zk_I 40 tx :: zk_L 20 cu :: zk_I 160 le :: zk_I 64 la :: zk_I 64 sz :: zk_L 1280 co :: zk_I 24 wh :: zk_I 24 wt :: zk_I 24 ma :: zk_I 24 bk :: zk_L 480 wr :: zk_I 50 lf :: zk_I 50 rt :: r))) 0 0 16 [some (.ref 26), some (.int (nI c)), some (.long x), none, some (.int (nI (mo_sum L c (fun id => wn_sum (fun j => if co (20 * id + j) = x then 1 else 0) (Z id)) k + 0))), some (.int (nI k)), some (.int (nI j))] [] (c0 :: c1 :: c2 :: c3 :: c4 :: c5 :: c6 :: c7 :: c8 :: c9 :: c10 :: c11 :: c12 :: c13 :: c14 :: c15 :: c16 :: c17 :: c18 :: c19 :: c20 :: c21 :: c22 :: c23 :: c24 :: zk_Mo n ty wo ch :: zk_I 40 tx :: zk_L 20 cu :: zk_I 160 le :: zk_I 64 la :: zk_I 64 sz :: zk_L 1280 co :: zk_I 24 wh :: zk_I 24 wt :: zk_I 24 ma :: zk_I 24 bk :: zk_L 480 wr :: zk_I 50 lf :: zk_I 50 rt :: r) := by
            refine wz_up (Z k) (fun j hkj ihj => ?_) ?_
            · refine zr_iload dMo_howOften_16 rfl ?_
              refine zr_aload_n dMo_howOften_18 rfl rfl ?_
              refine zr_getf g_Mo_23 dMo_howOften_19 rfl rfl ?_
              refine zr_iload dMo_howOften_22 rfl ?_
              refine zr_iald dMo_howOften_24 rfl (by omega) (by decide) ?_
              refine zr_topI (hsz k (by omega)).1 ?_
              refine zr_icmp_geN (tgt := 76) (by omega) (by omega) dMo_howOften_25 (by decide) (fun h25 => ?_) (fun h25 => ?_)
              · exfalso; omega
              · refine zr_aload_n dMo_howOften_28 rfl rfl ?_
                refine zr_getf g_Mo_20 dMo_howOften_29 rfl rfl ?_
                refine zr_iload dMo_howOften_32 rfl ?_
                refine zr_iald dMo_howOften_34 rfl (by omega) (by decide) ?_
                refine zr_topI (hla k (by omega)).1 ?_
                refine zr_iload_n dMo_howOften_35 rfl ?_
                refine zr_iconst (v := nI 1) dMo_howOften_36 (by decide) ?_
                refine zr_iaddN dMo_howOften_37 ?_
                refine zr_icmp_neN (tgt := 66) (by have := (hla k (by omega)).2; omega) (by omega) dMo_howOften_38 (by decide) (fun h38 => ?_) (fun h38 => ?_)
                · refine zr_iload dMo_howOften_66 rfl ?_
                  refine zr_istore dMo_howOften_68 (by decide) ?_
                  refine zr_iinc (v := nI (j + 1)) dMo_howOften_70 rfl (nI_1 _) (by decide) ?_
                  refine zr_goto (tgt := 16) dMo_howOften_73 (by decide) ?_
                  exact ihj
                · exact absurd h38 hLc
            · refine zr_iload dMo_howOften_16 rfl ?_
              refine zr_aload_n dMo_howOften_18 rfl rfl ?_
              refine zr_getf g_Mo_23 dMo_howOften_19 rfl rfl ?_
              refine zr_iload dMo_howOften_22 rfl ?_
              refine zr_iald dMo_howOften_24 rfl (by omega) (by decide) ?_
              refine zr_topI (hsz k (by omega)).1 ?_
              refine zr_icmp_geN (tgt := 76) (by omega) (by omega) dMo_howOften_25 (by decide) (fun h25 => ?_) (fun h25 => ?_)
              · refine zr_iinc (v := nI (k + 1)) dMo_howOften_76 rfl (nI_1 _) (by decide) ?_
                refine zr_goto (tgt := 6) dMo_howOften_79 (by decide) ?_
                rw [mo_sum_0 hLc] at ih
                exact zr_mask [true, true, true, true, true, true, false] ih
              · exfalso; omega
          exact key 0 (Nat.zero_le _)
    · refine zr_iload dMo_howOften_6 rfl ?_
      refine zr_bipush (v := nI 32) dMo_howOften_8 (by decide) ?_
      refine zr_icmp_geN (tgt := 82) (by omega) (by omega) dMo_howOften_10 (by decide) (fun h10 => ?_) (fun h10 => ?_)
      · refine zr_iload dMo_howOften_82 rfl ?_
        exact zr_ireturn dMo_howOften_84 rfl rfl (⟨rfl, rfl⟩)
      · exfalso; omega
  show zw_Z G Y_Mo_howOften _ _ _ 0 0 0 [some (.ref 26), some (.int (nI c)), some (.long x), none, none, none, none] [] _
  refine zr_iconst (v := nI 0) dMo_howOften_0 (by decide) ?_
  refine zr_istore dMo_howOften_1 (by decide) ?_
  refine zr_iconst (v := nI 0) dMo_howOften_3 (by decide) ?_
  refine zr_istore dMo_howOften_4 (by decide) ?_
  exact keyo 0 (Nat.zero_le 32)
def mo_count (n : Nat) (L Z : Nat → Nat) (co : Nat → Int64) (s : wt_S) (c k : Int32) : Int32 := if (¬ c < 0 ∧ c < nI n) ∧ (¬ k < 0 ∧ k < nI s.1) then nI (mo_often L Z co c.toNatClampNeg (lN (we_b (s.2.1 k.toNatClampNeg)))) else -1
set_option maxHeartbeats 4000000 in
set_option maxRecDepth 100000 in
theorem c_Mo_count {G : zw_G} {c0 c1 c2 c3 c4 c5 c6 c7 c8 c9 c10 c11 c12 c13 c14 c15 c16 c17 c18 c19 c20 c21 c22 c23 c24 : zw_C} {n ty wo ch : Nat} {tx le la sz wh wt ma bk lf rt : Nat → Int32} {cu co wr : Nat → Int64} {r : zw_W} {L : Nat → Nat} (hla : ∀ i, i < 64 → la i = nI (L i) ∧ L i < 1000) {Z : Nat → Nat} (hsz : ∀ i, i < 64 → sz i = nI (Z i) ∧ Z i ≤ 20) {x : Nat → Nat} (hty : ty ≤ 40) (hx : ∀ i, i < ty → tx i = nI (x i)) (hx16 : ∀ i, i < ty → x i < 65536) {c k : Int32} (hn : n ≤ 4) : zw_Met G Y_Mo_count 2 0 0 [.ref 26, .int c, .int k] (c0 :: c1 :: c2 :: c3 :: c4 :: c5 :: c6 :: c7 :: c8 :: c9 :: c10 :: c11 :: c12 :: c13 :: c14 :: c15 :: c16 :: c17 :: c18 :: c19 :: c20 :: c21 :: c22 :: c23 :: c24 :: zk_Mo n ty wo ch :: zk_I 40 tx :: zk_L 20 cu :: zk_I 160 le :: zk_I 64 la :: zk_I 64 sz :: zk_L 1280 co :: zk_I 24 wh :: zk_I 24 wt :: zk_I 24 ma :: zk_I 24 bk :: zk_L 480 wr :: zk_I 50 lf :: zk_I 50 rt :: r) (fun v w2 => v = some (.int (mo_count n L Z co (wt_of x ty) c k)) ∧ ∃ wo2 cu2 le2, w2 = (c0 :: c1 :: c2 :: c3 :: c4 :: c5 :: c6 :: c7 :: c8 :: c9 :: c10 :: c11 :: c12 :: c13 :: c14 :: c15 :: c16 :: c17 :: c18 :: c19 :: c20 :: c21 :: c22 :: c23 :: c24 :: zk_Mo n ty wo2 ch :: zk_I 40 tx :: zk_L 20 cu2 :: zk_I 160 le2 :: zk_I 64 la :: zk_I 64 sz :: zk_L 1280 co :: zk_I 24 wh :: zk_I 24 wt :: zk_I 24 ma :: zk_I 24 bk :: zk_L 480 wr :: zk_I 50 lf :: zk_I 50 rt :: r)) := by
  show zw_Z G Y_Mo_count _ _ _ 0 0 0 [some (.ref 26), some (.int c), some (.int k)] [] _
  refine zr_aload_n dMo_count_0 rfl rfl ?_
  refine zr_invV (c_Mo_read hty hx hx16) m_Mo_read k_Mo_66 v_Mo_read rfl rfl dMo_count_1 rfl (Nat.le_of_ble_eq_true rfl) (by decide) (Nat.le_of_ble_eq_true rfl) rfl (fun v w2 hp => ?_)
  obtain ⟨rfl, cu2, le2, rfl, hmr⟩ := hp
  refine ⟨rfl, ?_⟩
  refine zr_aload_n dMo_count_4 rfl rfl ?_
  refine zr_iload_n dMo_count_5 rfl ?_
  refine zr_invV (c_Mo_isClass (i := 25) rfl) m_Mo_isClass k_Mo_95 v_Mo_isClass rfl rfl dMo_count_6 rfl (Nat.le_of_ble_eq_true rfl) (by decide) (Nat.le_of_ble_eq_true rfl) rfl (fun v w2 hp => ?_)
  obtain ⟨rfl, rfl⟩ := hp
  refine ⟨rfl, ?_⟩
  refine zr_if_eqB (tgt := 24) dMo_count_9 (by decide) (fun h9 => ?_) (fun h9 => ?_)
  · have hv : mo_count n L Z co (wt_of x ty) c k = -1 := if_neg (fun q => h9 q.1)
    refine zr_iconst (v := (-1)) dMo_count_24 (by decide) ?_
    refine zr_goto (tgt := 39) dMo_count_25 (by decide) ?_
    exact zr_ireturn dMo_count_39 rfl rfl (⟨congrArg (fun x => some (Value.int x)) hv.symm, _, cu2, le2, rfl⟩)
  · obtain ⟨jc, hjc, rfl⟩ := zf_rng (by omega) h9.1 h9.2
    refine zr_iload_n dMo_count_12 rfl ?_
    refine zr_if_lt (tgt := 24) dMo_count_13 (by decide) (fun h13 => ?_) (fun h13 => ?_)
    · have hv : mo_count n L Z co (wt_of x ty) (nI jc) k = -1 := if_neg (fun q => q.2.1 h13)
      refine zr_iconst (v := (-1)) dMo_count_24 (by decide) ?_
      refine zr_goto (tgt := 39) dMo_count_25 (by decide) ?_
      exact zr_ireturn dMo_count_39 rfl rfl (⟨congrArg (fun x => some (Value.int x)) hv.symm, _, cu2, le2, rfl⟩)
    · refine zr_iload_n dMo_count_16 rfl ?_
      refine zr_aload_n dMo_count_17 rfl rfl ?_
      refine zr_getf g_Mo_57 dMo_count_18 rfl rfl ?_
      refine zr_icmp_lt (tgt := 28) dMo_count_21 (by decide) (fun h21 => ?_) (fun h21 => ?_)
      · have hw20 := wt_of_le x hty
        obtain ⟨jk, hjk, rfl⟩ := zf_rng (by omega) h13 h21
        have hv : mo_count n L Z co (wt_of x ty) (nI jc) (nI jk) = nI (mo_often L Z co jc (lN (we_b ((wt_of x ty).2.1 jk)))) := (if_pos ⟨h9, h13, h21⟩).trans (by rw [nI_clamp (by omega), nI_clamp (by omega)])
        refine zr_aload_n dMo_count_28 rfl rfl ?_
        refine zr_iload_n dMo_count_29 rfl ?_
        refine zr_aload_n dMo_count_30 rfl rfl ?_
        refine zr_getf g_Mo_13 dMo_count_31 rfl rfl ?_
        refine zr_iload_n dMo_count_34 rfl ?_
        refine zr_lald dMo_count_35 rfl (by omega) (by decide) ?_
        refine zr_topL (hmr.1 jk hjk) ?_
        refine zr_invV (c_Mo_howOften hla hsz (by omega)) m_Mo_howOften k_Mo_98 v_Mo_howOften rfl rfl dMo_count_36 rfl (Nat.le_of_ble_eq_true rfl) (by decide) (Nat.le_of_ble_eq_true rfl) rfl (fun v w2 hp => ?_)
        obtain ⟨rfl, rfl⟩ := hp
        refine ⟨rfl, ?_⟩
        exact zr_ireturn dMo_count_39 rfl rfl (⟨congrArg (fun x => some (Value.int x)) hv.symm, _, cu2, le2, rfl⟩)
      · have hv : mo_count n L Z co (wt_of x ty) (nI jc) k = -1 := if_neg (fun q => h21 q.2.2)
        refine zr_iconst (v := (-1)) dMo_count_24 (by decide) ?_
        refine zr_goto (tgt := 39) dMo_count_25 (by decide) ?_
        exact zr_ireturn dMo_count_39 rfl rfl (⟨congrArg (fun x => some (Value.int x)) hv.symm, _, cu2, le2, rfl⟩)
end
section
/-! the reference: the vocabulary, the chances -/
def mo_df (co : Nat → Int64) : Nat → Nat → Int64 := fun d j => co (20 * d + j)
noncomputable def mo_voc (L Z : Nat → Nat) (co : Nat → Int64) (id k : Nat) : Nat := zv_cnt (fun d => 0 < L d) Z (mo_df co) id k
set_option maxHeartbeats 4000000 in
set_option maxRecDepth 100000 in
theorem c_Mo_isNew {G : zw_G} {c0 c1 c2 c3 c4 c5 c6 c7 c8 c9 c10 c11 c12 c13 c14 c15 c16 c17 c18 c19 c20 c21 c22 c23 c24 : zw_C} {n ty wo ch : Nat} {tx le la sz wh wt ma bk lf rt : Nat → Int32} {cu co wr : Nat → Int64} {r : zw_W} {L : Nat → Nat} (hla : ∀ i, i < 64 → la i = nI (L i) ∧ L i < 1000) {Z : Nat → Nat} (hsz : ∀ i, i < 64 → sz i = nI (Z i) ∧ Z i ≤ 20) {id k : Nat} (hid : id < 32) (hk : k < 20) : zw_Met G Y_Mo_isNew 0 0 0 [.ref 26, .int (nI id), .int (nI k)] (c0 :: c1 :: c2 :: c3 :: c4 :: c5 :: c6 :: c7 :: c8 :: c9 :: c10 :: c11 :: c12 :: c13 :: c14 :: c15 :: c16 :: c17 :: c18 :: c19 :: c20 :: c21 :: c22 :: c23 :: c24 :: zk_Mo n ty wo ch :: zk_I 40 tx :: zk_L 20 cu :: zk_I 160 le :: zk_I 64 la :: zk_I 64 sz :: zk_L 1280 co :: zk_I 24 wh :: zk_I 24 wt :: zk_I 24 ma :: zk_I 24 bk :: zk_L 480 wr :: zk_I 50 lf :: zk_I 50 rt :: r) (zw_is (some (.int (nI (zv_n (fun d => 0 < L d) Z (mo_df co) id k)))) (c0 :: c1 :: c2 :: c3 :: c4 :: c5 :: c6 :: c7 :: c8 :: c9 :: c10 :: c11 :: c12 :: c13 :: c14 :: c15 :: c16 :: c17 :: c18 :: c19 :: c20 :: c21 :: c22 :: c23 :: c24 :: zk_Mo n ty wo ch :: zk_I 40 tx :: zk_L 20 cu :: zk_I 160 le :: zk_I 64 la :: zk_I 64 sz :: zk_L 1280 co :: zk_I 24 wh :: zk_I 24 wt :: zk_I 24 ma :: zk_I 24 bk :: zk_L 480 wr :: zk_I 50 lf :: zk_I 50 rt :: r)) := by
  have keyo : ∀ d, d ≤ (id + 1) → (∀ d2, d2 < d → 0 < L d2 → ∀ j, j < (if d2 = id then k else Z d2) → co (20 * d2 + j) ≠ co (20 * id + k)) → zw_Z G Y_Mo_isNew (zw_R 0 0 0) (fun _ => True) (zw_Q G 0 0 (zw_is (some (.int (nI (zv_n (fun d => 0 < L d) Z (mo_df co) id k)))) (c0 :: c1 :: c2 :: c3 :: c4 :: c5 :: c6 :: c7 :: c8 :: c9 :: c10 :: c11 :: c12 :: c13 :: c14 :: c15 :: c16 :: c17 :: c18 :: c19 :: c20 :: c21 :: c22 :: c23 :: c24 :: zk_Mo n ty wo ch :: zk_I 40 tx :: zk_L 20 cu :: zk_I 160 le :: zk_I 64 la :: zk_I 64 sz :: zk_L 1280 co :: zk_I 24 wh :: zk_I 24 wt :: zk_I 24 ma :: zk_I 24 bk :: zk_L 480 wr :: zk_I 50 lf :: zk_I 50 rt :: r))) 0 0 15 [some (.ref 26), some (.int (nI id)), some (.int (nI k)), some (.long (co (20 * id + k))), none, some (.int (nI d)), none] [] (c0 :: c1 :: c2 :: c3 :: c4 :: c5 :: c6 :: c7 :: c8 :: c9 :: c10 :: c11 :: c12 :: c13 :: c14 :: c15 :: c16 :: c17 :: c18 :: c19 :: c20 :: c21 :: c22 :: c23 :: c24 :: zk_Mo n ty wo ch :: zk_I 40 tx :: zk_L 20 cu :: zk_I 160 le :: zk_I 64 la :: zk_I 64 sz :: zk_L 1280 co :: zk_I 24 wh :: zk_I 24 wt :: zk_I 24 ma :: zk_I 24 bk :: zk_L 480 wr :: zk_I 50 lf :: zk_I 50 rt :: r) := by
    refine wz_up (id + 1) (fun d hkd ih => ?_) ?_
    · intro hno
      refine zr_iload dMo_isNew_15 rfl ?_
      refine zr_iload_n dMo_isNew_17 rfl ?_
      refine zr_icmp_gtN (tgt := 88) (by omega) (by omega) dMo_isNew_18 (by decide) (fun h18 => ?_) (fun h18 => ?_)
      · exfalso; omega
      · refine zr_iconst (v := nI 0) dMo_isNew_21 (by decide) ?_
        refine zr_istore dMo_isNew_22 (by decide) ?_
        by_cases hLd : 0 < L d
        · obtain ⟨B, hBd⟩ : ∃ B, B = if d = id then k else Z d := ⟨_, rfl⟩
          have hB20 : B ≤ 20 := by
            rw [hBd]
            split
            · omega
            · exact (hsz d (by omega)).2
          have key : ∀ j, j ≤ B → (∀ j2, j2 < j → co (20 * d + j2) ≠ co (20 * id + k)) → zw_Z G Y_Mo_isNew (zw_R 0 0 0) (fun _ => True) (zw_Q G 0 0 (zw_is (some (.int (nI (zv_n (fun d => 0 < L d) Z (mo_df co) id k)))) (c0 :: c1 :: c2 :: c3 :: c4 :: c5 :: c6 :: c7 :: c8 :: c9 :: c10 :: c11 :: c12 :: c13 :: c14 :: c15 :: c16 :: c17 :: c18 :: c19 :: c20 :: c21 :: c22 :: c23 :: c24 :: zk_Mo n ty wo ch :: zk_I 40 tx :: zk_L 20 cu :: zk_I 160 le :: zk_I 64 la :: zk_I 64 sz :: zk_L 1280 co :: zk_I 24 wh :: zk_I 24 wt :: zk_I 24 ma :: zk_I 24 bk :: zk_L 480 wr :: zk_I 50 lf :: zk_I 50 rt :: r))) 0 0 24 [some (.ref 26), some (.int (nI id)), some (.int (nI k)), some (.long (co (20 * id + k))), none, some (.int (nI d)), some (.int (nI j))] [] (c0 :: c1 :: c2 :: c3 :: c4 :: c5 :: c6 :: c7 :: c8 :: c9 :: c10 :: c11 :: c12 :: c13 :: c14 :: c15 :: c16 :: c17 :: c18 :: c19 :: c20 :: c21 :: c22 :: c23 :: c24 :: zk_Mo n ty wo ch :: zk_I 40 tx :: zk_L 20 cu :: zk_I 160 le :: zk_I 64 la :: zk_I 64 sz :: zk_L 1280 co :: zk_I 24 wh :: zk_I 24 wt :: zk_I 24 ma :: zk_I 24 bk :: zk_L 480 wr :: zk_I 50 lf :: zk_I 50 rt :: r) := by
            refine wz_up B (fun j hkj ihj => ?_) ?_
            · intro hnj
              refine zr_aload_n dMo_isNew_24 rfl rfl ?_
              refine zr_getf g_Mo_20 dMo_isNew_25 rfl rfl ?_
              refine zr_iload dMo_isNew_28 rfl ?_
              refine zr_iald dMo_isNew_30 rfl (by omega) (by decide) ?_
              refine zr_topI (hla d (by omega)).1 ?_
              refine zr_if_leN (tgt := 82) (by have := (hla d (by omega)).2; omega) dMo_isNew_31 (by decide) (fun h31 => ?_) (fun h31 => ?_)
              · exact absurd h31 (by omega)
              · refine zr_iload dMo_isNew_34 rfl ?_
                refine zr_iload dMo_isNew_36 rfl ?_
                refine zr_iload_n dMo_isNew_38 rfl ?_
                refine zr_icmp_neN (tgt := 46) (by omega) (by omega) dMo_isNew_39 (by decide) (fun h39 => ?_) (fun h39 => ?_)
                · have hB : B = Z d := hBd.trans (if_neg h39)
                  refine zr_aload_n dMo_isNew_46 rfl rfl ?_
                  refine zr_getf g_Mo_23 dMo_isNew_47 rfl rfl ?_
                  refine zr_iload dMo_isNew_50 rfl ?_
                  refine zr_iald dMo_isNew_52 rfl (by omega) (by decide) ?_
                  refine zr_topI (hsz d (by omega)).1 ?_
                  refine zr_icmp_geN (tgt := 82) (by omega) (by omega) dMo_isNew_53 (by decide) (fun h53 => ?_) (fun h53 => ?_)
                  · exfalso; omega
                  · refine zr_aload_n dMo_isNew_56 rfl rfl ?_
                    refine zr_getf g_Mo_26 dMo_isNew_57 rfl rfl ?_
                    refine zr_bipush (v := nI 20) dMo_isNew_60 (by decide) ?_
                    refine zr_iload dMo_isNew_62 rfl ?_
                    refine zr_imulN dMo_isNew_64 ?_
                    refine zr_iload dMo_isNew_65 rfl ?_
                    refine zr_iaddN dMo_isNew_67 ?_
                    refine zr_lald dMo_isNew_68 rfl (by omega) (by decide) ?_
                    refine zr_lload_n dMo_isNew_69 rfl ?_
                    refine zr_lcmp_ne (tgt := 76) dMo_isNew_70 dMo_isNew_71 (by decide) (fun h70 => ?_) (fun h70 => ?_)
                    · refine zr_iinc (v := nI (j + 1)) dMo_isNew_76 rfl (nI_1 _) (by decide) ?_
                      refine zr_goto (tgt := 24) dMo_isNew_79 (by decide) ?_
                      refine ihj (fun j2 hj2 => ?_)
                      by_cases e : j2 = j
                      · rw [e]; exact h70
                      · exact hnj j2 (by omega)
                    · refine zr_iconst (v := nI 0) dMo_isNew_74 (by decide) ?_
                      exact zr_ireturn dMo_isNew_75 rfl rfl (⟨congrArg (fun x => some (Value.int x)) <| congrArg nI (zv_n_0 ⟨d, j, hLd, by first | exact Or.inr ⟨h39, by omega⟩ | exact Or.inl ⟨by omega, by omega⟩, h70⟩).symm, rfl⟩)
                · have hB : B = k := hBd.trans (if_pos h39)
                  refine zr_iload_n dMo_isNew_42 rfl ?_
                  refine zr_goto (tgt := 53) dMo_isNew_43 (by decide) ?_
                  refine zr_icmp_geN (tgt := 82) (by omega) (by omega) dMo_isNew_53 (by decide) (fun h53 => ?_) (fun h53 => ?_)
                  · exfalso; omega
                  · refine zr_aload_n dMo_isNew_56 rfl rfl ?_
                    refine zr_getf g_Mo_26 dMo_isNew_57 rfl rfl ?_
                    refine zr_bipush (v := nI 20) dMo_isNew_60 (by decide) ?_
                    refine zr_iload dMo_isNew_62 rfl ?_
                    refine zr_imulN dMo_isNew_64 ?_
                    refine zr_iload dMo_isNew_65 rfl ?_
                    refine zr_iaddN dMo_isNew_67 ?_
                    refine zr_lald dMo_isNew_68 rfl (by omega) (by decide) ?_
                    refine zr_lload_n dMo_isNew_69 rfl ?_
                    refine zr_lcmp_ne (tgt := 76) dMo_isNew_70 dMo_isNew_71 (by decide) (fun h70 => ?_) (fun h70 => ?_)
                    · refine zr_iinc (v := nI (j + 1)) dMo_isNew_76 rfl (nI_1 _) (by decide) ?_
                      refine zr_goto (tgt := 24) dMo_isNew_79 (by decide) ?_
                      refine ihj (fun j2 hj2 => ?_)
                      by_cases e : j2 = j
                      · rw [e]; exact h70
                      · exact hnj j2 (by omega)
                    · refine zr_iconst (v := nI 0) dMo_isNew_74 (by decide) ?_
                      exact zr_ireturn dMo_isNew_75 rfl rfl (⟨congrArg (fun x => some (Value.int x)) <| congrArg nI (zv_n_0 ⟨d, j, hLd, by first | exact Or.inr ⟨h39, by omega⟩ | exact Or.inl ⟨by omega, by omega⟩, h70⟩).symm, rfl⟩)
            · intro hnj
              refine zr_aload_n dMo_isNew_24 rfl rfl ?_
              refine zr_getf g_Mo_20 dMo_isNew_25 rfl rfl ?_
              refine zr_iload dMo_isNew_28 rfl ?_
              refine zr_iald dMo_isNew_30 rfl (by omega) (by decide) ?_
              refine zr_topI (hla d (by omega)).1 ?_
              refine zr_if_leN (tgt := 82) (by have := (hla d (by omega)).2; omega) dMo_isNew_31 (by decide) (fun h31 => ?_) (fun h31 => ?_)
              · exact absurd h31 (by omega)
              · refine zr_iload dMo_isNew_34 rfl ?_
                refine zr_iload dMo_isNew_36 rfl ?_
                refine zr_iload_n dMo_isNew_38 rfl ?_
                refine zr_icmp_neN (tgt := 46) (by omega) (by omega) dMo_isNew_39 (by decide) (fun h39 => ?_) (fun h39 => ?_)
                · have hB : B = Z d := hBd.trans (if_neg h39)
                  refine zr_aload_n dMo_isNew_46 rfl rfl ?_
                  refine zr_getf g_Mo_23 dMo_isNew_47 rfl rfl ?_
                  refine zr_iload dMo_isNew_50 rfl ?_
                  refine zr_iald dMo_isNew_52 rfl (by omega) (by decide) ?_
                  refine zr_topI (hsz d (by omega)).1 ?_
                  refine zr_icmp_geN (tgt := 82) (by omega) (by omega) dMo_isNew_53 (by decide) (fun h53 => ?_) (fun h53 => ?_)
                  · refine zr_iinc (v := nI (d + 1)) dMo_isNew_82 rfl (nI_1 _) (by decide) ?_
                    refine zr_goto (tgt := 15) dMo_isNew_85 (by decide) ?_
                    refine zr_mask [true, true, true, true, true, true, false] (ih (fun d2 hd2 hL2 j2 hj2 => ?_))
                    by_cases e : d2 = d
                    · subst e; rw [← hBd] at hj2; exact hnj j2 hj2
                    · exact hno d2 (by omega) hL2 j2 hj2
                  · exfalso; omega
                · have hB : B = k := hBd.trans (if_pos h39)
                  refine zr_iload_n dMo_isNew_42 rfl ?_
                  refine zr_goto (tgt := 53) dMo_isNew_43 (by decide) ?_
                  refine zr_icmp_geN (tgt := 82) (by omega) (by omega) dMo_isNew_53 (by decide) (fun h53 => ?_) (fun h53 => ?_)
                  · refine zr_iinc (v := nI (d + 1)) dMo_isNew_82 rfl (nI_1 _) (by decide) ?_
                    refine zr_goto (tgt := 15) dMo_isNew_85 (by decide) ?_
                    refine zr_mask [true, true, true, true, true, true, false] (ih (fun d2 hd2 hL2 j2 hj2 => ?_))
                    by_cases e : d2 = d
                    · subst e; rw [← hBd] at hj2; exact hnj j2 hj2
                    · exact hno d2 (by omega) hL2 j2 hj2
                  · exfalso; omega
          exact key 0 (Nat.zero_le B) (fun j2 h => absurd h (Nat.not_lt_zero j2))
        · refine zr_aload_n dMo_isNew_24 rfl rfl ?_
          refine zr_getf g_Mo_20 dMo_isNew_25 rfl rfl ?_
          refine zr_iload dMo_isNew_28 rfl ?_
          refine zr_iald dMo_isNew_30 rfl (by omega) (by decide) ?_
          refine zr_topI (hla d (by omega)).1 ?_
          refine zr_if_leN (tgt := 82) (by have := (hla d (by omega)).2; omega) dMo_isNew_31 (by decide) (fun h31 => ?_) (fun h31 => ?_)
          · refine zr_iinc (v := nI (d + 1)) dMo_isNew_82 rfl (nI_1 _) (by decide) ?_
            refine zr_goto (tgt := 15) dMo_isNew_85 (by decide) ?_
            refine zr_mask [true, true, true, true, true, true, false] (ih (fun d2 hd2 hL2 j2 hj2 => ?_))
            by_cases e : d2 = d
            · subst e; exact absurd hL2 hLd
            · exact hno d2 (by omega) hL2 j2 hj2
          · exact absurd h31 hLd
    · intro hno
      refine zr_iload dMo_isNew_15 rfl ?_
      refine zr_iload_n dMo_isNew_17 rfl ?_
      refine zr_icmp_gtN (tgt := 88) (by omega) (by omega) dMo_isNew_18 (by decide) (fun h18 => ?_) (fun h18 => ?_)
      · refine zr_iconst (v := nI 1) dMo_isNew_88 (by decide) ?_
        exact zr_ireturn dMo_isNew_89 rfl rfl (⟨congrArg (fun x => some (Value.int x)) (congrArg nI (zv_n_1 (fun q => by
          obtain ⟨d, j, q1, q2, q3⟩ := q
          rcases q2 with ⟨q4, q5⟩ | ⟨q4, q5⟩
          · exact hno d (by omega) q1 j (by rw [if_neg (by omega)]; exact q5) q3
          · exact hno d (by omega) q1 j (by rw [if_pos q4]; exact q5) q3))).symm, rfl⟩)
      · exfalso; omega
  show zw_Z G Y_Mo_isNew _ _ _ 0 0 0 [some (.ref 26), some (.int (nI id)), some (.int (nI k)), none, none, none, none] [] _
  refine zr_aload_n dMo_isNew_0 rfl rfl ?_
  refine zr_getf g_Mo_26 dMo_isNew_1 rfl rfl ?_
  refine zr_bipush (v := nI 20) dMo_isNew_4 (by decide) ?_
  refine zr_iload_n dMo_isNew_6 rfl ?_
  refine zr_imulN dMo_isNew_7 ?_
  refine zr_iload_n dMo_isNew_8 rfl ?_
  refine zr_iaddN dMo_isNew_9 ?_
  refine zr_lald dMo_isNew_10 rfl (by omega) (by decide) ?_
  refine zr_lstore_n dMo_isNew_11 (by decide) ?_
  refine zr_iconst (v := nI 0) dMo_isNew_12 (by decide) ?_
  refine zr_istore dMo_isNew_13 (by decide) ?_
  exact keyo 0 (Nat.zero_le _) (fun d2 h => absurd h (Nat.not_lt_zero d2))
set_option maxHeartbeats 4000000 in
set_option maxRecDepth 100000 in
theorem c_Mo_vocabulary {G : zw_G} {c0 c1 c2 c3 c4 c5 c6 c7 c8 c9 c10 c11 c12 c13 c14 c15 c16 c17 c18 c19 c20 c21 c22 c23 c24 : zw_C} {n ty wo ch : Nat} {tx le la sz wh wt ma bk lf rt : Nat → Int32} {cu co wr : Nat → Int64} {r : zw_W} {L : Nat → Nat} (hla : ∀ i, i < 64 → la i = nI (L i) ∧ L i < 1000) {Z : Nat → Nat} (hsz : ∀ i, i < 64 → sz i = nI (Z i) ∧ Z i ≤ 20) : zw_Met G Y_Mo_vocabulary 1 0 0 [.ref 26] (c0 :: c1 :: c2 :: c3 :: c4 :: c5 :: c6 :: c7 :: c8 :: c9 :: c10 :: c11 :: c12 :: c13 :: c14 :: c15 :: c16 :: c17 :: c18 :: c19 :: c20 :: c21 :: c22 :: c23 :: c24 :: zk_Mo n ty wo ch :: zk_I 40 tx :: zk_L 20 cu :: zk_I 160 le :: zk_I 64 la :: zk_I 64 sz :: zk_L 1280 co :: zk_I 24 wh :: zk_I 24 wt :: zk_I 24 ma :: zk_I 24 bk :: zk_L 480 wr :: zk_I 50 lf :: zk_I 50 rt :: r) (zw_is (some (.int (nI (mo_voc L Z co 32 0)))) (c0 :: c1 :: c2 :: c3 :: c4 :: c5 :: c6 :: c7 :: c8 :: c9 :: c10 :: c11 :: c12 :: c13 :: c14 :: c15 :: c16 :: c17 :: c18 :: c19 :: c20 :: c21 :: c22 :: c23 :: c24 :: zk_Mo n ty wo ch :: zk_I 40 tx :: zk_L 20 cu :: zk_I 160 le :: zk_I 64 la :: zk_I 64 sz :: zk_L 1280 co :: zk_I 24 wh :: zk_I 24 wt :: zk_I 24 ma :: zk_I 24 bk :: zk_L 480 wr :: zk_I 50 lf :: zk_I 50 rt :: r)) := by
  have keyo : ∀ k, k ≤ 32 → zw_Z G Y_Mo_vocabulary (zw_R 1 0 0) (fun _ => True) (zw_Q G 0 0 (zw_is (some (.int (nI (mo_voc L Z co 32 0)))) (c0 :: c1 :: c2 :: c3 :: c4 :: c5 :: c6 :: c7 :: c8 :: c9 :: c10 :: c11 :: c12 :: c13 :: c14 :: c15 :: c16 :: c17 :: c18 :: c19 :: c20 :: c21 :: c22 :: c23 :: c24 :: zk_Mo n ty wo ch :: zk_I 40 tx :: zk_L 20 cu :: zk_I 160 le :: zk_I 64 la :: zk_I 64 sz :: zk_L 1280 co :: zk_I 24 wh :: zk_I 24 wt :: zk_I 24 ma :: zk_I 24 bk :: zk_L 480 wr :: zk_I 50 lf :: zk_I 50 rt :: r))) 0 0 4 [some (.ref 26), some (.int (nI (mo_voc L Z co k 0))), some (.int (nI k)), none] [] (c0 :: c1 :: c2 :: c3 :: c4 :: c5 :: c6 :: c7 :: c8 :: c9 :: c10 :: c11 :: c12 :: c13 :: c14 :: c15 :: c16 :: c17 :: c18 :: c19 :: c20 :: c21 :: c22 :: c23 :: c24 :: zk_Mo n ty wo ch :: zk_I 40 tx :: zk_L 20 cu :: zk_I 160 le :: zk_I 64 la :: zk_I 64 sz :: zk_L 1280 co :: zk_I 24 wh :: zk_I 24 wt :: zk_I 24 ma :: zk_I 24 bk :: zk_L 480 wr :: zk_I 50 lf :: zk_I 50 rt :: r) := by
    refine wz_up 32 (fun k hk ih => ?_) ?_
    · refine zr_iload_n dMo_vocabulary_4 rfl ?_
      refine zr_bipush (v := nI 32) dMo_vocabulary_5 (by decide) ?_
      refine zr_icmp_geN (tgt := 60) (by omega) (by omega) dMo_vocabulary_7 (by decide) (fun h7 => ?_) (fun h7 => ?_)
      · exfalso; omega
      · refine zr_iconst (v := nI 0) dMo_vocabulary_10 (by decide) ?_
        refine zr_istore_n dMo_vocabulary_11 (by decide) ?_
        have hzk := (hsz k (by omega)).2
        by_cases hLk : 0 < L k
        · have key : ∀ j, j ≤ (Z k) → zw_Z G Y_Mo_vocabulary (zw_R 1 0 0) (fun _ => True) (zw_Q G 0 0 (zw_is (some (.int (nI (mo_voc L Z co 32 0)))) (c0 :: c1 :: c2 :: c3 :: c4 :: c5 :: c6 :: c7 :: c8 :: c9 :: c10 :: c11 :: c12 :: c13 :: c14 :: c15 :: c16 :: c17 :: c18 :: c19 :: c20 :: c21 :: c22 :: c23 :: c24 :: zk_Mo n ty wo ch :: zk_I 40 tx :: zk_L 20 cu :: zk_I 160 le :: zk_I 64 la :: zk_I 64 sz :: zk_L 1280 co :: zk_I 24 wh :: zk_I 24 wt :: zk_I 24 ma :: zk_I 24 bk :: zk_L 480 wr :: zk_I 50 lf :: zk_I 50 rt :: r))) 0 0 12 [some (.ref 26), some (.int (nI (mo_voc L Z co k j))), some (.int (nI k)), some (.int (nI j))] [] (c0 :: c1 :: c2 :: c3 :: c4 :: c5 :: c6 :: c7 :: c8 :: c9 :: c10 :: c11 :: c12 :: c13 :: c14 :: c15 :: c16 :: c17 :: c18 :: c19 :: c20 :: c21 :: c22 :: c23 :: c24 :: zk_Mo n ty wo ch :: zk_I 40 tx :: zk_L 20 cu :: zk_I 160 le :: zk_I 64 la :: zk_I 64 sz :: zk_L 1280 co :: zk_I 24 wh :: zk_I 24 wt :: zk_I 24 ma :: zk_I 24 bk :: zk_L 480 wr :: zk_I 50 lf :: zk_I 50 rt :: r) := by
            refine wz_up (Z k) (fun j hkj ihj => ?_) ?_
            · refine zr_aload_n dMo_vocabulary_12 rfl rfl ?_
              refine zr_getf g_Mo_20 dMo_vocabulary_13 rfl rfl ?_
              refine zr_iload_n dMo_vocabulary_16 rfl ?_
              refine zr_iald dMo_vocabulary_17 rfl (by omega) (by decide) ?_
              refine zr_topI (hla k (by omega)).1 ?_
              refine zr_if_leN (tgt := 54) (by have := (hla k (by omega)).2; omega) dMo_vocabulary_18 (by decide) (fun h18 => ?_) (fun h18 => ?_)
              · exact absurd h18 (by omega)
              · refine zr_iload_n dMo_vocabulary_21 rfl ?_
                refine zr_aload_n dMo_vocabulary_22 rfl rfl ?_
                refine zr_getf g_Mo_23 dMo_vocabulary_23 rfl rfl ?_
                refine zr_iload_n dMo_vocabulary_26 rfl ?_
                refine zr_iald dMo_vocabulary_27 rfl (by omega) (by decide) ?_
                refine zr_topI (hsz k (by omega)).1 ?_
                refine zr_icmp_geN (tgt := 54) (by omega) (by omega) dMo_vocabulary_28 (by decide) (fun h28 => ?_) (fun h28 => ?_)
                · exfalso; omega
                · refine zr_aload_n dMo_vocabulary_31 rfl rfl ?_
                  refine zr_iload_n dMo_vocabulary_32 rfl ?_
                  refine zr_iload_n dMo_vocabulary_33 rfl ?_
                  refine zr_invV (c_Mo_isNew hla hsz hk (by omega)) m_Mo_isNew k_Mo_102 v_Mo_isNew rfl rfl dMo_vocabulary_34 rfl (Nat.le_of_ble_eq_true rfl) (by decide) (Nat.le_of_ble_eq_true rfl) rfl (fun v w2 hp => ?_)
                  obtain ⟨rfl, rfl⟩ := hp
                  have hn1 := @zv_n_le Int64 (fun d => 0 < L d) Z (mo_df co) k j
                  have hcn : mo_voc L Z co k (j + 1) = mo_voc L Z co k j + zv_n (fun d => 0 < L d) Z (mo_df co) k j := zv_cnt_k
                  refine ⟨rfl, ?_⟩
                  refine zr_if_eqN (tgt := 46) (by omega) dMo_vocabulary_37 (by decide) (fun h37 => ?_) (fun h37 => ?_)
                  · rw [hcn, h37, Nat.add_zero] at ihj
                    refine zr_iload_n dMo_vocabulary_46 rfl ?_
                    refine zr_istore_n dMo_vocabulary_47 (by decide) ?_
                    refine zr_iinc (v := nI (j + 1)) dMo_vocabulary_48 rfl (nI_1 _) (by decide) ?_
                    refine zr_goto (tgt := 12) dMo_vocabulary_51 (by decide) ?_
                    exact ihj
                  · rw [hcn, show zv_n (fun d => 0 < L d) Z (mo_df co) k j = 1 by omega] at ihj
                    refine zr_iload_n dMo_vocabulary_40 rfl ?_
                    refine zr_iconst (v := nI 1) dMo_vocabulary_41 (by decide) ?_
                    refine zr_iaddN dMo_vocabulary_42 ?_
                    refine zr_goto (tgt := 47) dMo_vocabulary_43 (by decide) ?_
                    refine zr_istore_n dMo_vocabulary_47 (by decide) ?_
                    refine zr_iinc (v := nI (j + 1)) dMo_vocabulary_48 rfl (nI_1 _) (by decide) ?_
                    refine zr_goto (tgt := 12) dMo_vocabulary_51 (by decide) ?_
                    exact ihj
            · refine zr_aload_n dMo_vocabulary_12 rfl rfl ?_
              refine zr_getf g_Mo_20 dMo_vocabulary_13 rfl rfl ?_
              refine zr_iload_n dMo_vocabulary_16 rfl ?_
              refine zr_iald dMo_vocabulary_17 rfl (by omega) (by decide) ?_
              refine zr_topI (hla k (by omega)).1 ?_
              refine zr_if_leN (tgt := 54) (by have := (hla k (by omega)).2; omega) dMo_vocabulary_18 (by decide) (fun h18 => ?_) (fun h18 => ?_)
              · exact absurd h18 (by omega)
              · refine zr_iload_n dMo_vocabulary_21 rfl ?_
                refine zr_aload_n dMo_vocabulary_22 rfl rfl ?_
                refine zr_getf g_Mo_23 dMo_vocabulary_23 rfl rfl ?_
                refine zr_iload_n dMo_vocabulary_26 rfl ?_
                refine zr_iald dMo_vocabulary_27 rfl (by omega) (by decide) ?_
                refine zr_topI (hsz k (by omega)).1 ?_
                refine zr_icmp_geN (tgt := 54) (by omega) (by omega) dMo_vocabulary_28 (by decide) (fun h28 => ?_) (fun h28 => ?_)
                · refine zr_iinc (v := nI (k + 1)) dMo_vocabulary_54 rfl (nI_1 _) (by decide) ?_
                  refine zr_goto (tgt := 4) dMo_vocabulary_57 (by decide) ?_
                  have hci : mo_voc L Z co (k + 1) 0 = mo_voc L Z co k (Z k) := zv_cnt_id hLk
                  rw [hci] at ih
                  exact zr_mask [true, true, true, false] ih
                · exfalso; omega
          exact key 0 (Nat.zero_le _)
        · refine zr_aload_n dMo_vocabulary_12 rfl rfl ?_
          refine zr_getf g_Mo_20 dMo_vocabulary_13 rfl rfl ?_
          refine zr_iload_n dMo_vocabulary_16 rfl ?_
          refine zr_iald dMo_vocabulary_17 rfl (by omega) (by decide) ?_
          refine zr_topI (hla k (by omega)).1 ?_
          refine zr_if_leN (tgt := 54) (by have := (hla k (by omega)).2; omega) dMo_vocabulary_18 (by decide) (fun h18 => ?_) (fun h18 => ?_)
          · refine zr_iinc (v := nI (k + 1)) dMo_vocabulary_54 rfl (nI_1 _) (by decide) ?_
            refine zr_goto (tgt := 4) dMo_vocabulary_57 (by decide) ?_
            have hci : mo_voc L Z co (k + 1) 0 = mo_voc L Z co k 0 := zv_cnt_id0 hLk
            rw [hci] at ih
            exact zr_mask [true, true, true, false] ih
          · exact absurd h18 hLk
    · refine zr_iload_n dMo_vocabulary_4 rfl ?_
      refine zr_bipush (v := nI 32) dMo_vocabulary_5 (by decide) ?_
      refine zr_icmp_geN (tgt := 60) (by omega) (by omega) dMo_vocabulary_7 (by decide) (fun h7 => ?_) (fun h7 => ?_)
      · refine zr_iload_n dMo_vocabulary_60 rfl ?_
        exact zr_ireturn dMo_vocabulary_61 rfl rfl (⟨rfl, rfl⟩)
      · exfalso; omega
  show zw_Z G Y_Mo_vocabulary _ _ _ 0 0 0 [some (.ref 26), none, none, none] [] _
  refine zr_iconst (v := nI 0) dMo_vocabulary_0 (by decide) ?_
  refine zr_istore_n dMo_vocabulary_1 (by decide) ?_
  refine zr_iconst (v := nI 0) dMo_vocabulary_2 (by decide) ?_
  refine zr_istore_n dMo_vocabulary_3 (by decide) ?_
  exact keyo 0 (Nat.zero_le 32)
def mo_is (f : Nat → Int32) (v : Nat) : Prop := ∃ F : Nat → Nat, (∀ j, j < 50 → F j < 1000) ∧ (∀ j, j < 50 → f j = nI (F j)) ∧ wv 1000 F 50 = v
set_option maxHeartbeats 4000000 in
set_option maxRecDepth 100000 in
theorem c_Mo_timesL0 {G : zw_G} {c0 c1 c2 c3 c4 c5 c6 c7 c8 c9 c10 c11 c12 c13 c14 c15 c16 c17 c18 c19 c20 c21 c22 c23 c24 : zw_C} {n ty wo ch : Nat} {tx le la sz wh wt ma bk lf rt : Nat → Int32} {cu co wr : Nat → Int64} {r : zw_W} {q : Nat} {F : Nat → Nat} (hq : q ≤ 1000) (hF : ∀ j, j < 50 → F j < 1000) (hf : ∀ j, j < 50 → lf j = nI (F j)) : zw_Met G Y_Mo_times 0 0 0 [.ref 26, .int (nI 1), .int (nI q)] (c0 :: c1 :: c2 :: c3 :: c4 :: c5 :: c6 :: c7 :: c8 :: c9 :: c10 :: c11 :: c12 :: c13 :: c14 :: c15 :: c16 :: c17 :: c18 :: c19 :: c20 :: c21 :: c22 :: c23 :: c24 :: zk_Mo n ty wo ch :: zk_I 40 tx :: zk_L 20 cu :: zk_I 160 le :: zk_I 64 la :: zk_I 64 sz :: zk_L 1280 co :: zk_I 24 wh :: zk_I 24 wt :: zk_I 24 ma :: zk_I 24 bk :: zk_L 480 wr :: zk_I 50 lf :: zk_I 50 rt :: r) (zw_is none (c0 :: c1 :: c2 :: c3 :: c4 :: c5 :: c6 :: c7 :: c8 :: c9 :: c10 :: c11 :: c12 :: c13 :: c14 :: c15 :: c16 :: c17 :: c18 :: c19 :: c20 :: c21 :: c22 :: c23 :: c24 :: zk_Mo n ty wo ch :: zk_I 40 tx :: zk_L 20 cu :: zk_I 160 le :: zk_I 64 la :: zk_I 64 sz :: zk_L 1280 co :: zk_I 24 wh :: zk_I 24 wt :: zk_I 24 ma :: zk_I 24 bk :: zk_L 480 wr :: zk_I 50 (fun j => if j < 50 then nI ((F j * q + wv_c 1000 q F j) % 1000) else lf j) :: zk_I 50 rt :: r)) := by
  have key : ∀ k, k ≤ 50 → zw_Z G Y_Mo_times (zw_R 0 0 0) (fun _ => True) (zw_Q G 0 0 (zw_is none (c0 :: c1 :: c2 :: c3 :: c4 :: c5 :: c6 :: c7 :: c8 :: c9 :: c10 :: c11 :: c12 :: c13 :: c14 :: c15 :: c16 :: c17 :: c18 :: c19 :: c20 :: c21 :: c22 :: c23 :: c24 :: zk_Mo n ty wo ch :: zk_I 40 tx :: zk_L 20 cu :: zk_I 160 le :: zk_I 64 la :: zk_I 64 sz :: zk_L 1280 co :: zk_I 24 wh :: zk_I 24 wt :: zk_I 24 ma :: zk_I 24 bk :: zk_L 480 wr :: zk_I 50 (fun j => if j < 50 then nI ((F j * q + wv_c 1000 q F j) % 1000) else lf j) :: zk_I 50 rt :: r))) 0 0 5 [some (.ref 26), some (.int (nI 1)), some (.int (nI q)), some (.int (nI (wv_c 1000 q F k))), some (.int (nI k)), none] [] (c0 :: c1 :: c2 :: c3 :: c4 :: c5 :: c6 :: c7 :: c8 :: c9 :: c10 :: c11 :: c12 :: c13 :: c14 :: c15 :: c16 :: c17 :: c18 :: c19 :: c20 :: c21 :: c22 :: c23 :: c24 :: zk_Mo n ty wo ch :: zk_I 40 tx :: zk_L 20 cu :: zk_I 160 le :: zk_I 64 la :: zk_I 64 sz :: zk_L 1280 co :: zk_I 24 wh :: zk_I 24 wt :: zk_I 24 ma :: zk_I 24 bk :: zk_L 480 wr :: zk_I 50 (fun j => if j < k then nI ((F j * q + wv_c 1000 q F j) % 1000) else lf j) :: zk_I 50 rt :: r) := by
    refine wz_up 50 (fun k hk ih => ?_) ?_
    · have hs : F k * q + wv_c 1000 q F k < 2 ^ 31 := by
        have h1 := wv_c_le (q := q) (n := 50) (by decide) hF k (by omega)
        have h2 : F k * q ≤ 999 * q := Nat.mul_le_mul_right q (by have := hF k hk; omega)
        omega
      refine zr_iload dMo_times_5 rfl ?_
      refine zr_bipush (v := nI 50) dMo_times_7 (by decide) ?_
      refine zr_icmp_geN (tgt := 85) (by omega) (by omega) dMo_times_9 (by decide) (fun h9 => ?_) (fun h9 => ?_)
      · exfalso; omega
      · refine zr_iload_n dMo_times_12 rfl ?_
        refine zr_if_eqN (tgt := 26) (by omega) dMo_times_13 (by decide) (fun h13 => ?_) (fun h13 => ?_)
        · exact absurd h13 (by decide)
        · refine zr_aload_n dMo_times_16 rfl rfl ?_
          refine zr_getf g_Mo_44 dMo_times_17 rfl rfl ?_
          refine zr_iload dMo_times_20 rfl ?_
          refine zr_iald dMo_times_22 rfl (hk) (by decide) ?_
          refine zr_topI ((if_neg (Nat.lt_irrefl k)).trans (hf k hk)) ?_
          refine zr_goto (tgt := 33) dMo_times_23 (by decide) ?_
          refine zr_iload_n dMo_times_33 rfl ?_
          refine zr_imulN dMo_times_34 ?_
          refine zr_iload_n dMo_times_35 rfl ?_
          refine zr_iaddN dMo_times_36 ?_
          refine zr_istore dMo_times_37 (by decide) ?_
          refine zr_iload dMo_times_39 rfl ?_
          refine zr_sipush (v := nI 1000) dMo_times_41 (by decide) ?_
          refine zr_idivN (hs) (by decide) (by decide) dMo_times_44 ?_
          refine zr_istore_n dMo_times_45 (by decide) ?_
          refine zr_iload_n dMo_times_46 rfl ?_
          refine zr_if_eqN (tgt := 66) (by omega) dMo_times_47 (by decide) (fun h47 => ?_) (fun h47 => ?_)
          · exact absurd h47 (by decide)
          · refine zr_aload_n dMo_times_50 rfl rfl ?_
            refine zr_getf g_Mo_44 dMo_times_51 rfl rfl ?_
            refine zr_iload dMo_times_54 rfl ?_
            refine zr_iload dMo_times_56 rfl ?_
            refine zr_sipush (v := nI 1000) dMo_times_58 (by decide) ?_
            refine zr_iremN (hs) (by decide) (by decide) dMo_times_61 ?_
            refine zr_iast dMo_times_62 rfl (hk) (by decide) ?_
            refine zr_wld (w2 := (c0 :: c1 :: c2 :: c3 :: c4 :: c5 :: c6 :: c7 :: c8 :: c9 :: c10 :: c11 :: c12 :: c13 :: c14 :: c15 :: c16 :: c17 :: c18 :: c19 :: c20 :: c21 :: c22 :: c23 :: c24 :: zk_Mo n ty wo ch :: zk_I 40 tx :: zk_L 20 cu :: zk_I 160 le :: zk_I 64 la :: zk_I 64 sz :: zk_L 1280 co :: zk_I 24 wh :: zk_I 24 wt :: zk_I 24 ma :: zk_I 24 bk :: zk_L 480 wr :: zk_I 50 (fun j => if j < (k + 1) then nI ((F j * q + wv_c 1000 q F j) % 1000) else lf j) :: zk_I 50 rt :: r)) (by rw [← zf_upI (d := fun j => nI ((F j * q + wv_c 1000 q F j) % 1000))]; rfl) ?_
            refine zr_goto (tgt := 79) dMo_times_63 (by decide) ?_
            refine zr_iinc (v := nI (k + 1)) dMo_times_79 rfl (nI_1 _) (by decide) ?_
            refine zr_goto (tgt := 5) dMo_times_82 (by decide) ?_
            exact zr_mask [true, true, true, true, true, false] ih
    · refine zr_iload dMo_times_5 rfl ?_
      refine zr_bipush (v := nI 50) dMo_times_7 (by decide) ?_
      refine zr_icmp_geN (tgt := 85) (by omega) (by omega) dMo_times_9 (by decide) (fun h9 => ?_) (fun h9 => ?_)
      · exact zr_return dMo_times_85 rfl (⟨rfl, rfl⟩)
      · exfalso; omega
  show zw_Z G Y_Mo_times _ _ _ 0 0 0 [some (.ref 26), some (.int (nI 1)), some (.int (nI q)), none, none, none] [] _
  refine zr_iconst (v := nI 0) dMo_times_0 (by decide) ?_
  refine zr_istore_n dMo_times_1 (by decide) ?_
  refine zr_iconst (v := nI 0) dMo_times_2 (by decide) ?_
  refine zr_istore dMo_times_3 (by decide) ?_
  refine zr_wld (w2 := (c0 :: c1 :: c2 :: c3 :: c4 :: c5 :: c6 :: c7 :: c8 :: c9 :: c10 :: c11 :: c12 :: c13 :: c14 :: c15 :: c16 :: c17 :: c18 :: c19 :: c20 :: c21 :: c22 :: c23 :: c24 :: zk_Mo n ty wo ch :: zk_I 40 tx :: zk_L 20 cu :: zk_I 160 le :: zk_I 64 la :: zk_I 64 sz :: zk_L 1280 co :: zk_I 24 wh :: zk_I 24 wt :: zk_I 24 ma :: zk_I 24 bk :: zk_L 480 wr :: zk_I 50 (fun j => if j < 0 then nI ((F j * q + wv_c 1000 q F j) % 1000) else lf j) :: zk_I 50 rt :: r)) (by rw [zf_if0 (d := fun j => nI ((F j * q + wv_c 1000 q F j) % 1000))]) ?_
  exact key 0 (Nat.zero_le 50)
theorem c_Mo_timesL {G : zw_G} {c0 c1 c2 c3 c4 c5 c6 c7 c8 c9 c10 c11 c12 c13 c14 c15 c16 c17 c18 c19 c20 c21 c22 c23 c24 : zw_C} {n ty wo ch : Nat} {tx le la sz wh wt ma bk lf rt : Nat → Int32} {cu co wr : Nat → Int64} {r : zw_W} {q v : Nat} (hq : q ≤ 1000) (hv : mo_is lf v) (hb : v * q < 1000 ^ 50) : zw_Met G Y_Mo_times 0 0 0 [.ref 26, .int (nI 1), .int (nI q)] (c0 :: c1 :: c2 :: c3 :: c4 :: c5 :: c6 :: c7 :: c8 :: c9 :: c10 :: c11 :: c12 :: c13 :: c14 :: c15 :: c16 :: c17 :: c18 :: c19 :: c20 :: c21 :: c22 :: c23 :: c24 :: zk_Mo n ty wo ch :: zk_I 40 tx :: zk_L 20 cu :: zk_I 160 le :: zk_I 64 la :: zk_I 64 sz :: zk_L 1280 co :: zk_I 24 wh :: zk_I 24 wt :: zk_I 24 ma :: zk_I 24 bk :: zk_L 480 wr :: zk_I 50 lf :: zk_I 50 rt :: r) (fun r2 w2 => r2 = none ∧ ∃ f2, w2 = (c0 :: c1 :: c2 :: c3 :: c4 :: c5 :: c6 :: c7 :: c8 :: c9 :: c10 :: c11 :: c12 :: c13 :: c14 :: c15 :: c16 :: c17 :: c18 :: c19 :: c20 :: c21 :: c22 :: c23 :: c24 :: zk_Mo n ty wo ch :: zk_I 40 tx :: zk_L 20 cu :: zk_I 160 le :: zk_I 64 la :: zk_I 64 sz :: zk_L 1280 co :: zk_I 24 wh :: zk_I 24 wt :: zk_I 24 ma :: zk_I 24 bk :: zk_L 480 wr :: zk_I 50 f2 :: zk_I 50 rt :: r) ∧ mo_is f2 (v * q)) := by
  obtain ⟨F, hF, hf, hw⟩ := hv
  refine zw_Met.post (c_Mo_timesL0 hq hF hf) (fun r2 w2 hp => ?_)
  obtain ⟨rfl, rfl⟩ := hp
  refine ⟨rfl, _, rfl, fun j => (F j * q + wv_c 1000 q F j) % 1000, fun j _ => Nat.mod_lt _ (by decide), fun j hj => if_pos hj, ?_⟩
  rw [wv_prod (by decide) (by rw [hw]; exact hb), hw]
set_option maxHeartbeats 4000000 in
set_option maxRecDepth 100000 in
theorem c_Mo_timesR0 {G : zw_G} {c0 c1 c2 c3 c4 c5 c6 c7 c8 c9 c10 c11 c12 c13 c14 c15 c16 c17 c18 c19 c20 c21 c22 c23 c24 : zw_C} {n ty wo ch : Nat} {tx le la sz wh wt ma bk lf rt : Nat → Int32} {cu co wr : Nat → Int64} {r : zw_W} {q : Nat} {F : Nat → Nat} (hq : q ≤ 1000) (hF : ∀ j, j < 50 → F j < 1000) (hf : ∀ j, j < 50 → rt j = nI (F j)) : zw_Met G Y_Mo_times 0 0 0 [.ref 26, .int (nI 0), .int (nI q)] (c0 :: c1 :: c2 :: c3 :: c4 :: c5 :: c6 :: c7 :: c8 :: c9 :: c10 :: c11 :: c12 :: c13 :: c14 :: c15 :: c16 :: c17 :: c18 :: c19 :: c20 :: c21 :: c22 :: c23 :: c24 :: zk_Mo n ty wo ch :: zk_I 40 tx :: zk_L 20 cu :: zk_I 160 le :: zk_I 64 la :: zk_I 64 sz :: zk_L 1280 co :: zk_I 24 wh :: zk_I 24 wt :: zk_I 24 ma :: zk_I 24 bk :: zk_L 480 wr :: zk_I 50 lf :: zk_I 50 rt :: r) (zw_is none (c0 :: c1 :: c2 :: c3 :: c4 :: c5 :: c6 :: c7 :: c8 :: c9 :: c10 :: c11 :: c12 :: c13 :: c14 :: c15 :: c16 :: c17 :: c18 :: c19 :: c20 :: c21 :: c22 :: c23 :: c24 :: zk_Mo n ty wo ch :: zk_I 40 tx :: zk_L 20 cu :: zk_I 160 le :: zk_I 64 la :: zk_I 64 sz :: zk_L 1280 co :: zk_I 24 wh :: zk_I 24 wt :: zk_I 24 ma :: zk_I 24 bk :: zk_L 480 wr :: zk_I 50 lf :: zk_I 50 (fun j => if j < 50 then nI ((F j * q + wv_c 1000 q F j) % 1000) else rt j) :: r)) := by
  have key : ∀ k, k ≤ 50 → zw_Z G Y_Mo_times (zw_R 0 0 0) (fun _ => True) (zw_Q G 0 0 (zw_is none (c0 :: c1 :: c2 :: c3 :: c4 :: c5 :: c6 :: c7 :: c8 :: c9 :: c10 :: c11 :: c12 :: c13 :: c14 :: c15 :: c16 :: c17 :: c18 :: c19 :: c20 :: c21 :: c22 :: c23 :: c24 :: zk_Mo n ty wo ch :: zk_I 40 tx :: zk_L 20 cu :: zk_I 160 le :: zk_I 64 la :: zk_I 64 sz :: zk_L 1280 co :: zk_I 24 wh :: zk_I 24 wt :: zk_I 24 ma :: zk_I 24 bk :: zk_L 480 wr :: zk_I 50 lf :: zk_I 50 (fun j => if j < 50 then nI ((F j * q + wv_c 1000 q F j) % 1000) else rt j) :: r))) 0 0 5 [some (.ref 26), some (.int (nI 0)), some (.int (nI q)), some (.int (nI (wv_c 1000 q F k))), some (.int (nI k)), none] [] (c0 :: c1 :: c2 :: c3 :: c4 :: c5 :: c6 :: c7 :: c8 :: c9 :: c10 :: c11 :: c12 :: c13 :: c14 :: c15 :: c16 :: c17 :: c18 :: c19 :: c20 :: c21 :: c22 :: c23 :: c24 :: zk_Mo n ty wo ch :: zk_I 40 tx :: zk_L 20 cu :: zk_I 160 le :: zk_I 64 la :: zk_I 64 sz :: zk_L 1280 co :: zk_I 24 wh :: zk_I 24 wt :: zk_I 24 ma :: zk_I 24 bk :: zk_L 480 wr :: zk_I 50 lf :: zk_I 50 (fun j => if j < k then nI ((F j * q + wv_c 1000 q F j) % 1000) else rt j) :: r) := by
    refine wz_up 50 (fun k hk ih => ?_) ?_
    · have hs : F k * q + wv_c 1000 q F k < 2 ^ 31 := by
        have h1 := wv_c_le (q := q) (n := 50) (by decide) hF k (by omega)
        have h2 : F k * q ≤ 999 * q := Nat.mul_le_mul_right q (by have := hF k hk; omega)
        omega
      refine zr_iload dMo_times_5 rfl ?_
      refine zr_bipush (v := nI 50) dMo_times_7 (by decide) ?_
      refine zr_icmp_geN (tgt := 85) (by omega) (by omega) dMo_times_9 (by decide) (fun h9 => ?_) (fun h9 => ?_)
      · exfalso; omega
      · refine zr_iload_n dMo_times_12 rfl ?_
        refine zr_if_eqN (tgt := 26) (by omega) dMo_times_13 (by decide) (fun h13 => ?_) (fun h13 => ?_)
        · refine zr_aload_n dMo_times_26 rfl rfl ?_
          refine zr_getf g_Mo_47 dMo_times_27 rfl rfl ?_
          refine zr_iload dMo_times_30 rfl ?_
          refine zr_iald dMo_times_32 rfl (hk) (by decide) ?_
          refine zr_topI ((if_neg (Nat.lt_irrefl k)).trans (hf k hk)) ?_
          refine zr_iload_n dMo_times_33 rfl ?_
          refine zr_imulN dMo_times_34 ?_
          refine zr_iload_n dMo_times_35 rfl ?_
          refine zr_iaddN dMo_times_36 ?_
          refine zr_istore dMo_times_37 (by decide) ?_
          refine zr_iload dMo_times_39 rfl ?_
          refine zr_sipush (v := nI 1000) dMo_times_41 (by decide) ?_
          refine zr_idivN (hs) (by decide) (by decide) dMo_times_44 ?_
          refine zr_istore_n dMo_times_45 (by decide) ?_
          refine zr_iload_n dMo_times_46 rfl ?_
          refine zr_if_eqN (tgt := 66) (by omega) dMo_times_47 (by decide) (fun h47 => ?_) (fun h47 => ?_)
          · refine zr_aload_n dMo_times_66 rfl rfl ?_
            refine zr_getf g_Mo_47 dMo_times_67 rfl rfl ?_
            refine zr_iload dMo_times_70 rfl ?_
            refine zr_iload dMo_times_72 rfl ?_
            refine zr_sipush (v := nI 1000) dMo_times_74 (by decide) ?_
            refine zr_iremN (hs) (by decide) (by decide) dMo_times_77 ?_
            refine zr_iast dMo_times_78 rfl (hk) (by decide) ?_
            refine zr_wld (w2 := (c0 :: c1 :: c2 :: c3 :: c4 :: c5 :: c6 :: c7 :: c8 :: c9 :: c10 :: c11 :: c12 :: c13 :: c14 :: c15 :: c16 :: c17 :: c18 :: c19 :: c20 :: c21 :: c22 :: c23 :: c24 :: zk_Mo n ty wo ch :: zk_I 40 tx :: zk_L 20 cu :: zk_I 160 le :: zk_I 64 la :: zk_I 64 sz :: zk_L 1280 co :: zk_I 24 wh :: zk_I 24 wt :: zk_I 24 ma :: zk_I 24 bk :: zk_L 480 wr :: zk_I 50 lf :: zk_I 50 (fun j => if j < (k + 1) then nI ((F j * q + wv_c 1000 q F j) % 1000) else rt j) :: r)) (by rw [← zf_upI (d := fun j => nI ((F j * q + wv_c 1000 q F j) % 1000))]; rfl) ?_
            refine zr_iinc (v := nI (k + 1)) dMo_times_79 rfl (nI_1 _) (by decide) ?_
            refine zr_goto (tgt := 5) dMo_times_82 (by decide) ?_
            exact zr_mask [true, true, true, true, true, false] ih
          · exact absurd h47 (by decide)
        · exact absurd h13 (by decide)
    · refine zr_iload dMo_times_5 rfl ?_
      refine zr_bipush (v := nI 50) dMo_times_7 (by decide) ?_
      refine zr_icmp_geN (tgt := 85) (by omega) (by omega) dMo_times_9 (by decide) (fun h9 => ?_) (fun h9 => ?_)
      · exact zr_return dMo_times_85 rfl (⟨rfl, rfl⟩)
      · exfalso; omega
  show zw_Z G Y_Mo_times _ _ _ 0 0 0 [some (.ref 26), some (.int (nI 0)), some (.int (nI q)), none, none, none] [] _
  refine zr_iconst (v := nI 0) dMo_times_0 (by decide) ?_
  refine zr_istore_n dMo_times_1 (by decide) ?_
  refine zr_iconst (v := nI 0) dMo_times_2 (by decide) ?_
  refine zr_istore dMo_times_3 (by decide) ?_
  refine zr_wld (w2 := (c0 :: c1 :: c2 :: c3 :: c4 :: c5 :: c6 :: c7 :: c8 :: c9 :: c10 :: c11 :: c12 :: c13 :: c14 :: c15 :: c16 :: c17 :: c18 :: c19 :: c20 :: c21 :: c22 :: c23 :: c24 :: zk_Mo n ty wo ch :: zk_I 40 tx :: zk_L 20 cu :: zk_I 160 le :: zk_I 64 la :: zk_I 64 sz :: zk_L 1280 co :: zk_I 24 wh :: zk_I 24 wt :: zk_I 24 ma :: zk_I 24 bk :: zk_L 480 wr :: zk_I 50 lf :: zk_I 50 (fun j => if j < 0 then nI ((F j * q + wv_c 1000 q F j) % 1000) else rt j) :: r)) (by rw [zf_if0 (d := fun j => nI ((F j * q + wv_c 1000 q F j) % 1000))]) ?_
  exact key 0 (Nat.zero_le 50)
theorem c_Mo_timesR {G : zw_G} {c0 c1 c2 c3 c4 c5 c6 c7 c8 c9 c10 c11 c12 c13 c14 c15 c16 c17 c18 c19 c20 c21 c22 c23 c24 : zw_C} {n ty wo ch : Nat} {tx le la sz wh wt ma bk lf rt : Nat → Int32} {cu co wr : Nat → Int64} {r : zw_W} {q v : Nat} (hq : q ≤ 1000) (hv : mo_is rt v) (hb : v * q < 1000 ^ 50) : zw_Met G Y_Mo_times 0 0 0 [.ref 26, .int (nI 0), .int (nI q)] (c0 :: c1 :: c2 :: c3 :: c4 :: c5 :: c6 :: c7 :: c8 :: c9 :: c10 :: c11 :: c12 :: c13 :: c14 :: c15 :: c16 :: c17 :: c18 :: c19 :: c20 :: c21 :: c22 :: c23 :: c24 :: zk_Mo n ty wo ch :: zk_I 40 tx :: zk_L 20 cu :: zk_I 160 le :: zk_I 64 la :: zk_I 64 sz :: zk_L 1280 co :: zk_I 24 wh :: zk_I 24 wt :: zk_I 24 ma :: zk_I 24 bk :: zk_L 480 wr :: zk_I 50 lf :: zk_I 50 rt :: r) (fun r2 w2 => r2 = none ∧ ∃ f2, w2 = (c0 :: c1 :: c2 :: c3 :: c4 :: c5 :: c6 :: c7 :: c8 :: c9 :: c10 :: c11 :: c12 :: c13 :: c14 :: c15 :: c16 :: c17 :: c18 :: c19 :: c20 :: c21 :: c22 :: c23 :: c24 :: zk_Mo n ty wo ch :: zk_I 40 tx :: zk_L 20 cu :: zk_I 160 le :: zk_I 64 la :: zk_I 64 sz :: zk_L 1280 co :: zk_I 24 wh :: zk_I 24 wt :: zk_I 24 ma :: zk_I 24 bk :: zk_L 480 wr :: zk_I 50 lf :: zk_I 50 f2 :: r) ∧ mo_is f2 (v * q)) := by
  obtain ⟨F, hF, hf, hw⟩ := hv
  refine zw_Met.post (c_Mo_timesR0 hq hF hf) (fun r2 w2 hp => ?_)
  obtain ⟨rfl, rfl⟩ := hp
  refine ⟨rfl, _, rfl, fun j => (F j * q + wv_c 1000 q F j) % 1000, fun j _ => Nat.mod_lt _ (by decide), fun j hj => if_pos hj, ?_⟩
  rw [wv_prod (by decide) (by rw [hw]; exact hb), hw]
def mo_D (L : Nat → Nat) (c : Nat) : Nat := mo_sum L c (fun _ => 1) 32
noncomputable def mo_E (L Z : Nat → Nat) (co : Nat → Int64) (c : Nat) : Nat := mo_sum L c Z 32 + (mo_voc L Z co 32 0 + 1)
def mo_N (L Z : Nat → Nat) (co : Nat → Int64) (s : wt_S) (c k : Nat) : Nat := mo_often L Z co c (lN (we_b (s.2.1 k))) + 1
noncomputable def mo_sg (L Z : Nat → Nat) (co : Nat → Int64) (s : wt_S) : Nat → Nat → Int32 := zc_sgn (mo_D L) (mo_E L Z co) (mo_N L Z co s) s.1
theorem mo_fit : 10 * 80601 ^ 20 < 1000 ^ 50 ∧ 10 * 80601 ^ 19 * 201 < 1000 ^ 50 := by decide +kernel
theorem mo_11 : (11 : Nat) < 1000 ^ 50 := by decide +kernel
theorem mo_fit1 {d de k : Nat} {nu : Nat → Nat} (hd : d ≤ 10) (hn : ∀ j, j < k + 1 → nu j ≤ 201) (he : de ≤ 401) (hk : k < 20) : zc_prod d nu de k * nu k < 1000 ^ 50 := by
  have h1 := zc_prod_le hd (fun j hj => hn j (by omega)) he (k := k)
  have h2 : 80601 ^ k ≤ 80601 ^ 19 := Nat.pow_le_pow_right (by decide) (by omega)
  have h3 : zc_prod d nu de k * nu k ≤ 10 * 80601 ^ k * 201 := Nat.mul_le_mul h1 (hn k (by omega))
  have h4 := mo_fit.2
  have h5 : 10 * 80601 ^ k * 201 ≤ 10 * 80601 ^ 19 * 201 := Nat.mul_le_mul_right _ (Nat.mul_le_mul_left _ h2)
  omega
theorem mo_fit2 {d de k : Nat} {nu : Nat → Nat} (hd : d ≤ 10) (hn : ∀ j, j < k → nu j ≤ 201) (he : de ≤ 401) (hk : k ≤ 20) : zc_prod d nu de k < 1000 ^ 50 := by
  have h1 := zc_prod_le hd hn he
  have h2 := zc_pow hk
  have h3 := mo_fit.1
  omega
set_option maxHeartbeats 4000000 in
set_option maxRecDepth 100000 in
theorem c_Mo_against {G : zw_G} {c0 c1 c2 c3 c4 c5 c6 c7 c8 c9 c10 c11 c12 c13 c14 c15 c16 c17 c18 c19 c20 c21 c22 c23 c24 : zw_C} {n ty wo ch : Nat} {tx le la sz wh wt ma bk lf rt : Nat → Int32} {cu co wr : Nat → Int64} {r : zw_W} {L : Nat → Nat} (hla : ∀ i, i < 64 → la i = nI (L i) ∧ L i < 1000) {Z : Nat → Nat} (hsz : ∀ i, i < 64 → sz i = nI (Z i) ∧ Z i ≤ 20) {x : Nat → Nat} (hty : ty ≤ 40) (hx : ∀ i, i < ty → tx i = nI (x i)) (hx16 : ∀ i, i < ty → x i < 65536) (hn4 : n ≤ 4) (hD : ∀ c, c < n → mo_D L c ≤ 10) (hE : ∀ c, c < n → mo_E L Z co c ≤ 401) (hN : ∀ c, c < n → ∀ k, k < (wt_of x ty).1 → mo_N L Z co (wt_of x ty) c k ≤ 201) {a b : Nat} (ha : a < n) (hb : b < n) : zw_Met G Y_Mo_against 2 0 0 [.ref 26, .int (nI a), .int (nI b)] (c0 :: c1 :: c2 :: c3 :: c4 :: c5 :: c6 :: c7 :: c8 :: c9 :: c10 :: c11 :: c12 :: c13 :: c14 :: c15 :: c16 :: c17 :: c18 :: c19 :: c20 :: c21 :: c22 :: c23 :: c24 :: zk_Mo n ty wo ch :: zk_I 40 tx :: zk_L 20 cu :: zk_I 160 le :: zk_I 64 la :: zk_I 64 sz :: zk_L 1280 co :: zk_I 24 wh :: zk_I 24 wt :: zk_I 24 ma :: zk_I 24 bk :: zk_L 480 wr :: zk_I 50 lf :: zk_I 50 rt :: r) (fun v w2 => v = some (.int (mo_sg L Z co (wt_of x ty) a b)) ∧ ∃ (wo2 : Nat) (cu2 : Nat → Int64) (le2 lf2 rt2 : Nat → Int32), w2 = (c0 :: c1 :: c2 :: c3 :: c4 :: c5 :: c6 :: c7 :: c8 :: c9 :: c10 :: c11 :: c12 :: c13 :: c14 :: c15 :: c16 :: c17 :: c18 :: c19 :: c20 :: c21 :: c22 :: c23 :: c24 :: zk_Mo n ty wo2 ch :: zk_I 40 tx :: zk_L 20 cu2 :: zk_I 160 le2 :: zk_I 64 la :: zk_I 64 sz :: zk_L 1280 co :: zk_I 24 wh :: zk_I 24 wt :: zk_I 24 ma :: zk_I 24 bk :: zk_L 480 wr :: zk_I 50 lf2 :: zk_I 50 rt2 :: r)) := by
  have key3 : ∀ (cu2 : Nat → Int64) (le2 lf3 rt3 : Nat → Int32), mo_is lf3 (zc_side (mo_D L) (mo_E L Z co) (mo_N L Z co (wt_of x ty)) (wt_of x ty).1 a b) → mo_is rt3 (zc_side (mo_D L) (mo_E L Z co) (mo_N L Z co (wt_of x ty)) (wt_of x ty).1 b a) → zw_Z G Y_Mo_against (zw_R 2 0 0) (fun _ => True) (zw_Q G 0 0 (fun v w2 => v = some (.int (mo_sg L Z co (wt_of x ty) a b)) ∧ ∃ (wo2 : Nat) (cu2 : Nat → Int64) (le2 lf2 rt2 : Nat → Int32), w2 = (c0 :: c1 :: c2 :: c3 :: c4 :: c5 :: c6 :: c7 :: c8 :: c9 :: c10 :: c11 :: c12 :: c13 :: c14 :: c15 :: c16 :: c17 :: c18 :: c19 :: c20 :: c21 :: c22 :: c23 :: c24 :: zk_Mo n ty wo2 ch :: zk_I 40 tx :: zk_L 20 cu2 :: zk_I 160 le2 :: zk_I 64 la :: zk_I 64 sz :: zk_L 1280 co :: zk_I 24 wh :: zk_I 24 wt :: zk_I 24 ma :: zk_I 24 bk :: zk_L 480 wr :: zk_I 50 lf2 :: zk_I 50 rt2 :: r))) 0 0 167 [some (.ref 26), some (.int (nI a)), some (.int (nI b)), some (.int (nI (mo_voc L Z co 32 0 + 1))), some (.int (nI (mo_E L Z co a))), some (.int (nI (mo_E L Z co b))), some (.int (zf_dn 50))] [] (c0 :: c1 :: c2 :: c3 :: c4 :: c5 :: c6 :: c7 :: c8 :: c9 :: c10 :: c11 :: c12 :: c13 :: c14 :: c15 :: c16 :: c17 :: c18 :: c19 :: c20 :: c21 :: c22 :: c23 :: c24 :: zk_Mo n ty (wt_of x ty).1 ch :: zk_I 40 tx :: zk_L 20 cu2 :: zk_I 160 le2 :: zk_I 64 la :: zk_I 64 sz :: zk_L 1280 co :: zk_I 24 wh :: zk_I 24 wt :: zk_I 24 ma :: zk_I 24 bk :: zk_L 480 wr :: zk_I 50 lf3 :: zk_I 50 rt3 :: r) := by
    intro cu2 le2 lf3 rt3 hl3 hr3
    obtain ⟨F1, d1, f1, v1⟩ := hl3
    obtain ⟨F2, d2, f2, v2⟩ := hr3
    have key : ∀ k, k ≤ 50 → (∀ j, k ≤ j → j < 50 → F1 j = F2 j) → zw_Z G Y_Mo_against (zw_R 2 0 0) (fun _ => True) (zw_Q G 0 0 (fun v w2 => v = some (.int (mo_sg L Z co (wt_of x ty) a b)) ∧ ∃ (wo2 : Nat) (cu2 : Nat → Int64) (le2 lf2 rt2 : Nat → Int32), w2 = (c0 :: c1 :: c2 :: c3 :: c4 :: c5 :: c6 :: c7 :: c8 :: c9 :: c10 :: c11 :: c12 :: c13 :: c14 :: c15 :: c16 :: c17 :: c18 :: c19 :: c20 :: c21 :: c22 :: c23 :: c24 :: zk_Mo n ty wo2 ch :: zk_I 40 tx :: zk_L 20 cu2 :: zk_I 160 le2 :: zk_I 64 la :: zk_I 64 sz :: zk_L 1280 co :: zk_I 24 wh :: zk_I 24 wt :: zk_I 24 ma :: zk_I 24 bk :: zk_L 480 wr :: zk_I 50 lf2 :: zk_I 50 rt2 :: r))) 0 0 167 [some (.ref 26), some (.int (nI a)), some (.int (nI b)), some (.int (nI (mo_voc L Z co 32 0 + 1))), some (.int (nI (mo_E L Z co a))), some (.int (nI (mo_E L Z co b))), some (.int (zf_dn k))] [] (c0 :: c1 :: c2 :: c3 :: c4 :: c5 :: c6 :: c7 :: c8 :: c9 :: c10 :: c11 :: c12 :: c13 :: c14 :: c15 :: c16 :: c17 :: c18 :: c19 :: c20 :: c21 :: c22 :: c23 :: c24 :: zk_Mo n ty (wt_of x ty).1 ch :: zk_I 40 tx :: zk_L 20 cu2 :: zk_I 160 le2 :: zk_I 64 la :: zk_I 64 sz :: zk_L 1280 co :: zk_I 24 wh :: zk_I 24 wt :: zk_I 24 ma :: zk_I 24 bk :: zk_L 480 wr :: zk_I 50 lf3 :: zk_I 50 rt3 :: r) := by
      intro k
      induction k with
      | zero =>
        intro _ hab
        refine zr_iload dMo_against_167 rfl ?_
        refine zr_if_lt (tgt := 218) dMo_against_169 (by decide) (fun h169 => ?_) (fun h169 => ?_)
        · refine zr_iconst (v := nI 0) dMo_against_218 (by decide) ?_
          exact zr_ireturn dMo_against_219 rfl rfl (⟨congrArg (fun x => some (Value.int x)) (show mo_sg L Z co (wt_of x ty) a b = 0 from if_pos (by rw [← v1, ← v2]; exact wv_congr fun j hj => hab j (Nat.zero_le _) hj)).symm, _, cu2, le2, lf3, rt3, rfl⟩)
        · exact absurd (show (-1 : Int32) < 0 by decide) h169
      | succ k ih =>
        intro hk hab
        refine zr_iload dMo_against_167 rfl ?_
        refine zr_if_ltN (tgt := 218) (by omega) dMo_against_169 (by decide) (fun h169 => ?_) (fun h169 => ?_)
        · exact h169.elim
        · refine zr_aload_n dMo_against_172 rfl rfl ?_
          refine zr_getf g_Mo_44 dMo_against_173 rfl rfl ?_
          refine zr_iload dMo_against_176 rfl ?_
          refine zr_iald dMo_against_178 rfl (by omega) (by decide) ?_
          refine zr_topI (f1 k (by omega)) ?_
          refine zr_aload_n dMo_against_179 rfl rfl ?_
          refine zr_getf g_Mo_47 dMo_against_180 rfl rfl ?_
          refine zr_iload dMo_against_183 rfl ?_
          refine zr_iald dMo_against_185 rfl (by omega) (by decide) ?_
          refine zr_topI (f2 k (by omega)) ?_
          refine zr_icmp_eqN (tgt := 212) (by have := d1 k (by omega); omega) (by have := d2 k (by omega); omega) dMo_against_186 (by decide) (fun h186 => ?_) (fun h186 => ?_)
          · refine zr_iinc (v := zf_dn k) dMo_against_212 rfl (zf_dn_step k) (by decide) ?_
            refine zr_goto (tgt := 167) dMo_against_215 (by decide) ?_
            refine ih (by omega) (fun j h1 h2 => ?_)
            by_cases e : j = k
            · rw [e]; exact h186
            · exact hab j (by omega) h2
          · refine zr_aload_n dMo_against_189 rfl rfl ?_
            refine zr_getf g_Mo_44 dMo_against_190 rfl rfl ?_
            refine zr_iload dMo_against_193 rfl ?_
            refine zr_iald dMo_against_195 rfl (by omega) (by decide) ?_
            refine zr_topI (f1 k (by omega)) ?_
            refine zr_aload_n dMo_against_196 rfl rfl ?_
            refine zr_getf g_Mo_47 dMo_against_197 rfl rfl ?_
            refine zr_iload dMo_against_200 rfl ?_
            refine zr_iald dMo_against_202 rfl (by omega) (by decide) ?_
            refine zr_topI (f2 k (by omega)) ?_
            refine zr_icmp_leN (tgt := 210) (by have := d1 k (by omega); omega) (by have := d2 k (by omega); omega) dMo_against_203 (by decide) (fun h203 => ?_) (fun h203 => ?_)
            · have hw := wv_cmp d1 (by omega) (fun j h1 h2 => hab j (by omega) h2) (show F1 k < F2 k by omega)
              rw [v1, v2] at hw
              have hv : mo_sg L Z co (wt_of x ty) a b = -1 := (if_neg (by omega)).trans (if_neg (by omega))
              refine zr_iconst (v := (-1)) dMo_against_210 (by decide) ?_
              exact zr_ireturn dMo_against_211 rfl rfl (⟨congrArg (fun x => some (Value.int x)) hv.symm, _, cu2, le2, lf3, rt3, rfl⟩)
            · have hw := wv_cmp d2 (by omega) (fun j h1 h2 => (hab j (by omega) h2).symm) h203
              rw [v1, v2] at hw
              have hv : mo_sg L Z co (wt_of x ty) a b = 1 := (if_neg (by omega)).trans (if_pos hw)
              refine zr_iconst (v := nI 1) dMo_against_206 (by decide) ?_
              refine zr_goto (tgt := 211) dMo_against_207 (by decide) ?_
              exact zr_ireturn dMo_against_211 rfl rfl (⟨congrArg (fun x => some (Value.int x)) hv.symm, _, cu2, le2, lf3, rt3, rfl⟩)
    exact key 50 (Nat.le_refl 50) (fun j h1 h2 => by omega)
  have key2 : ∀ (cu2 : Nat → Int64) (le2 : Nat → Int32), mr_ok (wt_of x ty) cu2 le2 → ∀ (lf3 rt3 : Nat → Int32), mo_is lf3 (mo_D L a) → mo_is rt3 (mo_D L b) → zw_Z G Y_Mo_against (zw_R 2 0 0) (fun _ => True) (zw_Q G 0 0 (fun v w2 => v = some (.int (mo_sg L Z co (wt_of x ty) a b)) ∧ ∃ (wo2 : Nat) (cu2 : Nat → Int64) (le2 lf2 rt2 : Nat → Int32), w2 = (c0 :: c1 :: c2 :: c3 :: c4 :: c5 :: c6 :: c7 :: c8 :: c9 :: c10 :: c11 :: c12 :: c13 :: c14 :: c15 :: c16 :: c17 :: c18 :: c19 :: c20 :: c21 :: c22 :: c23 :: c24 :: zk_Mo n ty wo2 ch :: zk_I 40 tx :: zk_L 20 cu2 :: zk_I 160 le2 :: zk_I 64 la :: zk_I 64 sz :: zk_L 1280 co :: zk_I 24 wh :: zk_I 24 wt :: zk_I 24 ma :: zk_I 24 bk :: zk_L 480 wr :: zk_I 50 lf2 :: zk_I 50 rt2 :: r))) 0 0 96 [some (.ref 26), some (.int (nI a)), some (.int (nI b)), some (.int (nI (mo_voc L Z co 32 0 + 1))), some (.int (nI (mo_E L Z co a))), some (.int (nI (mo_E L Z co b))), some (.int (nI 0))] [] (c0 :: c1 :: c2 :: c3 :: c4 :: c5 :: c6 :: c7 :: c8 :: c9 :: c10 :: c11 :: c12 :: c13 :: c14 :: c15 :: c16 :: c17 :: c18 :: c19 :: c20 :: c21 :: c22 :: c23 :: c24 :: zk_Mo n ty (wt_of x ty).1 ch :: zk_I 40 tx :: zk_L 20 cu2 :: zk_I 160 le2 :: zk_I 64 la :: zk_I 64 sz :: zk_L 1280 co :: zk_I 24 wh :: zk_I 24 wt :: zk_I 24 ma :: zk_I 24 bk :: zk_L 480 wr :: zk_I 50 lf3 :: zk_I 50 rt3 :: r) := by
    intro cu2 le2 hmr
    have key : ∀ k, k ≤ (wt_of x ty).1 → ∀ (lf3 rt3 : Nat → Int32), mo_is lf3 (zc_prod (mo_D L a) (mo_N L Z co (wt_of x ty) a) (mo_E L Z co b) k) → mo_is rt3 (zc_prod (mo_D L b) (mo_N L Z co (wt_of x ty) b) (mo_E L Z co a) k) → zw_Z G Y_Mo_against (zw_R 2 0 0) (fun _ => True) (zw_Q G 0 0 (fun v w2 => v = some (.int (mo_sg L Z co (wt_of x ty) a b)) ∧ ∃ (wo2 : Nat) (cu2 : Nat → Int64) (le2 lf2 rt2 : Nat → Int32), w2 = (c0 :: c1 :: c2 :: c3 :: c4 :: c5 :: c6 :: c7 :: c8 :: c9 :: c10 :: c11 :: c12 :: c13 :: c14 :: c15 :: c16 :: c17 :: c18 :: c19 :: c20 :: c21 :: c22 :: c23 :: c24 :: zk_Mo n ty wo2 ch :: zk_I 40 tx :: zk_L 20 cu2 :: zk_I 160 le2 :: zk_I 64 la :: zk_I 64 sz :: zk_L 1280 co :: zk_I 24 wh :: zk_I 24 wt :: zk_I 24 ma :: zk_I 24 bk :: zk_L 480 wr :: zk_I 50 lf2 :: zk_I 50 rt2 :: r))) 0 0 96 [some (.ref 26), some (.int (nI a)), some (.int (nI b)), some (.int (nI (mo_voc L Z co 32 0 + 1))), some (.int (nI (mo_E L Z co a))), some (.int (nI (mo_E L Z co b))), some (.int (nI k))] [] (c0 :: c1 :: c2 :: c3 :: c4 :: c5 :: c6 :: c7 :: c8 :: c9 :: c10 :: c11 :: c12 :: c13 :: c14 :: c15 :: c16 :: c17 :: c18 :: c19 :: c20 :: c21 :: c22 :: c23 :: c24 :: zk_Mo n ty (wt_of x ty).1 ch :: zk_I 40 tx :: zk_L 20 cu2 :: zk_I 160 le2 :: zk_I 64 la :: zk_I 64 sz :: zk_L 1280 co :: zk_I 24 wh :: zk_I 24 wt :: zk_I 24 ma :: zk_I 24 bk :: zk_L 480 wr :: zk_I 50 lf3 :: zk_I 50 rt3 :: r) := by
      refine wz_up (wt_of x ty).1 (fun k hk ih => ?_) ?_
      · intro lf3 rt3 hl3 hr3
        have hw20 := wt_of_le x hty
        have a1 := mo_fit1 (hD a ha) (fun j hj => hN a ha j (by omega)) (hE b hb) (k := k) (by omega)
        have a2 := mo_fit2 (hD a ha) (fun j hj => hN a ha j (by omega)) (hE b hb) (k := k + 1) (by omega)
        have b1 := mo_fit1 (hD b hb) (fun j hj => hN b hb j (by omega)) (hE a ha) (k := k) (by omega)
        have b2 := mo_fit2 (hD b hb) (fun j hj => hN b hb j (by omega)) (hE a ha) (k := k + 1) (by omega)
        have na := hN a ha k hk
        have nb := hN b hb k hk
        have ea := hE a ha
        have eb := hE b hb
        refine zr_iload dMo_against_96 rfl ?_
        refine zr_aload_n dMo_against_98 rfl rfl ?_
        refine zr_getf g_Mo_57 dMo_against_99 rfl rfl ?_
        refine zr_icmp_geN (tgt := 163) (by omega) (by omega) dMo_against_102 (by decide) (fun h102 => ?_) (fun h102 => ?_)
        · exfalso; omega
        · refine zr_aload_n dMo_against_105 rfl rfl ?_
          refine zr_iconst (v := nI 1) dMo_against_106 (by decide) ?_
          refine zr_aload_n dMo_against_107 rfl rfl ?_
          refine zr_iload_n dMo_against_108 rfl ?_
          refine zr_aload_n dMo_against_109 rfl rfl ?_
          refine zr_getf g_Mo_13 dMo_against_110 rfl rfl ?_
          refine zr_iload dMo_against_113 rfl ?_
          refine zr_lald dMo_against_115 rfl (by have := wt_of_le x hty; omega) (by decide) ?_
          refine zr_topL (hmr.1 k hk) ?_
          refine zr_invV (c_Mo_howOften hla hsz (by omega)) m_Mo_howOften k_Mo_98 v_Mo_howOften rfl rfl dMo_against_116 rfl (Nat.le_of_ble_eq_true rfl) (by decide) (Nat.le_of_ble_eq_true rfl) rfl (fun v w2 hp => ?_)
          obtain ⟨rfl, rfl⟩ := hp
          refine ⟨rfl, ?_⟩
          refine zr_iconst (v := nI 1) dMo_against_119 (by decide) ?_
          refine zr_iaddN dMo_against_120 ?_
          refine zr_invV (c_Mo_timesL (by show mo_N L Z co (wt_of x ty) a k ≤ 1000; omega) hl3 a1) m_Mo_times k_Mo_115 v_Mo_times rfl rfl dMo_against_121 rfl (Nat.le_of_ble_eq_true rfl) (by decide) (Nat.le_of_ble_eq_true rfl) rfl (fun v w2 hp => ?_)
          obtain ⟨rfl, lf4, rfl, hl4⟩ := hp
          refine ⟨rfl, ?_⟩
          refine zr_aload_n dMo_against_124 rfl rfl ?_
          refine zr_iconst (v := nI 1) dMo_against_125 (by decide) ?_
          refine zr_iload dMo_against_126 rfl ?_
          refine zr_invV (c_Mo_timesL (by omega) hl4 a2) m_Mo_times k_Mo_115 v_Mo_times rfl rfl dMo_against_128 rfl (Nat.le_of_ble_eq_true rfl) (by decide) (Nat.le_of_ble_eq_true rfl) rfl (fun v w2 hp => ?_)
          obtain ⟨rfl, lf5, rfl, hl5⟩ := hp
          refine ⟨rfl, ?_⟩
          refine zr_aload_n dMo_against_131 rfl rfl ?_
          refine zr_iconst (v := nI 0) dMo_against_132 (by decide) ?_
          refine zr_aload_n dMo_against_133 rfl rfl ?_
          refine zr_iload_n dMo_against_134 rfl ?_
          refine zr_aload_n dMo_against_135 rfl rfl ?_
          refine zr_getf g_Mo_13 dMo_against_136 rfl rfl ?_
          refine zr_iload dMo_against_139 rfl ?_
          refine zr_lald dMo_against_141 rfl (by have := wt_of_le x hty; omega) (by decide) ?_
          refine zr_topL (hmr.1 k hk) ?_
          refine zr_invV (c_Mo_howOften hla hsz (by omega)) m_Mo_howOften k_Mo_98 v_Mo_howOften rfl rfl dMo_against_142 rfl (Nat.le_of_ble_eq_true rfl) (by decide) (Nat.le_of_ble_eq_true rfl) rfl (fun v w2 hp => ?_)
          obtain ⟨rfl, rfl⟩ := hp
          refine ⟨rfl, ?_⟩
          refine zr_iconst (v := nI 1) dMo_against_145 (by decide) ?_
          refine zr_iaddN dMo_against_146 ?_
          refine zr_invV (c_Mo_timesR (by show mo_N L Z co (wt_of x ty) b k ≤ 1000; omega) hr3 b1) m_Mo_times k_Mo_115 v_Mo_times rfl rfl dMo_against_147 rfl (Nat.le_of_ble_eq_true rfl) (by decide) (Nat.le_of_ble_eq_true rfl) rfl (fun v w2 hp => ?_)
          obtain ⟨rfl, rt4, rfl, hr4⟩ := hp
          refine ⟨rfl, ?_⟩
          refine zr_aload_n dMo_against_150 rfl rfl ?_
          refine zr_iconst (v := nI 0) dMo_against_151 (by decide) ?_
          refine zr_iload dMo_against_152 rfl ?_
          refine zr_invV (c_Mo_timesR (by omega) hr4 b2) m_Mo_times k_Mo_115 v_Mo_times rfl rfl dMo_against_154 rfl (Nat.le_of_ble_eq_true rfl) (by decide) (Nat.le_of_ble_eq_true rfl) rfl (fun v w2 hp => ?_)
          obtain ⟨rfl, rt5, rfl, hr5⟩ := hp
          refine ⟨rfl, ?_⟩
          refine zr_iinc (v := nI (k + 1)) dMo_against_157 rfl (nI_1 _) (by decide) ?_
          refine zr_goto (tgt := 96) dMo_against_160 (by decide) ?_
          exact ih _ _ hl5 hr5
      · intro lf3 rt3 hl3 hr3
        have hw20 := wt_of_le x hty
        refine zr_iload dMo_against_96 rfl ?_
        refine zr_aload_n dMo_against_98 rfl rfl ?_
        refine zr_getf g_Mo_57 dMo_against_99 rfl rfl ?_
        refine zr_icmp_geN (tgt := 163) (by omega) (by omega) dMo_against_102 (by decide) (fun h102 => ?_) (fun h102 => ?_)
        · refine zr_bipush (v := nI 49) dMo_against_163 (by decide) ?_
          refine zr_istore dMo_against_165 (by decide) ?_
          exact key3 cu2 le2 lf3 rt3 hl3 hr3
        · exfalso; omega
    exact key 0 (Nat.zero_le _)
  have key1 : ∀ k, k ≤ 50 → zw_Z G Y_Mo_against (zw_R 2 0 0) (fun _ => True) (zw_Q G 0 0 (fun v w2 => v = some (.int (mo_sg L Z co (wt_of x ty) a b)) ∧ ∃ (wo2 : Nat) (cu2 : Nat → Int64) (le2 lf2 rt2 : Nat → Int32), w2 = (c0 :: c1 :: c2 :: c3 :: c4 :: c5 :: c6 :: c7 :: c8 :: c9 :: c10 :: c11 :: c12 :: c13 :: c14 :: c15 :: c16 :: c17 :: c18 :: c19 :: c20 :: c21 :: c22 :: c23 :: c24 :: zk_Mo n ty wo2 ch :: zk_I 40 tx :: zk_L 20 cu2 :: zk_I 160 le2 :: zk_I 64 la :: zk_I 64 sz :: zk_L 1280 co :: zk_I 24 wh :: zk_I 24 wt :: zk_I 24 ma :: zk_I 24 bk :: zk_L 480 wr :: zk_I 50 lf2 :: zk_I 50 rt2 :: r))) 0 0 2 [some (.ref 26), some (.int (nI a)), some (.int (nI b)), some (.int (nI k)), none, none, none] [] (c0 :: c1 :: c2 :: c3 :: c4 :: c5 :: c6 :: c7 :: c8 :: c9 :: c10 :: c11 :: c12 :: c13 :: c14 :: c15 :: c16 :: c17 :: c18 :: c19 :: c20 :: c21 :: c22 :: c23 :: c24 :: zk_Mo n ty wo ch :: zk_I 40 tx :: zk_L 20 cu :: zk_I 160 le :: zk_I 64 la :: zk_I 64 sz :: zk_L 1280 co :: zk_I 24 wh :: zk_I 24 wt :: zk_I 24 ma :: zk_I 24 bk :: zk_L 480 wr :: zk_I 50 (fun j => if j < k then nI (if j = 0 then 1 else 0) else lf j) :: zk_I 50 (fun j => if j < k then nI (if j = 0 then 1 else 0) else rt j) :: r) := by
    refine wz_up 50 (fun k hk ih => ?_) ?_
    · refine zr_iload_n dMo_against_2 rfl ?_
      refine zr_bipush (v := nI 50) dMo_against_3 (by decide) ?_
      refine zr_icmp_geN (tgt := 44) (by omega) (by omega) dMo_against_5 (by decide) (fun h5 => ?_) (fun h5 => ?_)
      · exfalso; omega
      · refine zr_aload_n dMo_against_8 rfl rfl ?_
        refine zr_getf g_Mo_44 dMo_against_9 rfl rfl ?_
        refine zr_iload_n dMo_against_12 rfl ?_
        refine zr_iload_n dMo_against_13 rfl ?_
        refine zr_if_neN (tgt := 21) (by omega) dMo_against_14 (by decide) (fun h14 => ?_) (fun h14 => ?_)
        · refine zr_iconst (v := nI 0) dMo_against_21 (by decide) ?_
          refine zr_iast dMo_against_22 rfl (hk) (by decide) ?_
          refine zr_aload_n dMo_against_23 rfl rfl ?_
          refine zr_getf g_Mo_47 dMo_against_24 rfl rfl ?_
          refine zr_iload_n dMo_against_27 rfl ?_
          refine zr_iload_n dMo_against_28 rfl ?_
          refine zr_if_neN (tgt := 36) (by omega) dMo_against_29 (by decide) (fun h29 => ?_) (fun h29 => ?_)
          · refine zr_iconst (v := nI 0) dMo_against_36 (by decide) ?_
            refine zr_iast dMo_against_37 rfl (hk) (by decide) ?_
            refine zr_wld (w2 := (c0 :: c1 :: c2 :: c3 :: c4 :: c5 :: c6 :: c7 :: c8 :: c9 :: c10 :: c11 :: c12 :: c13 :: c14 :: c15 :: c16 :: c17 :: c18 :: c19 :: c20 :: c21 :: c22 :: c23 :: c24 :: zk_Mo n ty wo ch :: zk_I 40 tx :: zk_L 20 cu :: zk_I 160 le :: zk_I 64 la :: zk_I 64 sz :: zk_L 1280 co :: zk_I 24 wh :: zk_I 24 wt :: zk_I 24 ma :: zk_I 24 bk :: zk_L 480 wr :: zk_I 50 (fun j => if j < (k + 1) then nI (if j = 0 then 1 else 0) else lf j) :: zk_I 50 (fun j => if j < (k + 1) then nI (if j = 0 then 1 else 0) else rt j) :: r)) (by rw [← zf_upI (d := fun j => nI (if j = 0 then 1 else 0)), ← zf_upI (d := fun j => nI (if j = 0 then 1 else 0)), if_neg h14]; rfl) ?_
            refine zr_iinc (v := nI (k + 1)) dMo_against_38 rfl (nI_1 _) (by decide) ?_
            refine zr_goto (tgt := 2) dMo_against_41 (by decide) ?_
            exact ih
          · refine zr_iconst (v := nI 1) dMo_against_32 (by decide) ?_
            refine zr_goto (tgt := 37) dMo_against_33 (by decide) ?_
            refine zr_iast dMo_against_37 rfl (hk) (by decide) ?_
            exact absurd h29 h14
        · refine zr_iconst (v := nI 1) dMo_against_17 (by decide) ?_
          refine zr_goto (tgt := 22) dMo_against_18 (by decide) ?_
          refine zr_iast dMo_against_22 rfl (hk) (by decide) ?_
          refine zr_aload_n dMo_against_23 rfl rfl ?_
          refine zr_getf g_Mo_47 dMo_against_24 rfl rfl ?_
          refine zr_iload_n dMo_against_27 rfl ?_
          refine zr_iload_n dMo_against_28 rfl ?_
          refine zr_if_neN (tgt := 36) (by omega) dMo_against_29 (by decide) (fun h29 => ?_) (fun h29 => ?_)
          · refine zr_iconst (v := nI 0) dMo_against_36 (by decide) ?_
            refine zr_iast dMo_against_37 rfl (hk) (by decide) ?_
            exact absurd h14 h29
          · refine zr_iconst (v := nI 1) dMo_against_32 (by decide) ?_
            refine zr_goto (tgt := 37) dMo_against_33 (by decide) ?_
            refine zr_iast dMo_against_37 rfl (hk) (by decide) ?_
            refine zr_wld (w2 := (c0 :: c1 :: c2 :: c3 :: c4 :: c5 :: c6 :: c7 :: c8 :: c9 :: c10 :: c11 :: c12 :: c13 :: c14 :: c15 :: c16 :: c17 :: c18 :: c19 :: c20 :: c21 :: c22 :: c23 :: c24 :: zk_Mo n ty wo ch :: zk_I 40 tx :: zk_L 20 cu :: zk_I 160 le :: zk_I 64 la :: zk_I 64 sz :: zk_L 1280 co :: zk_I 24 wh :: zk_I 24 wt :: zk_I 24 ma :: zk_I 24 bk :: zk_L 480 wr :: zk_I 50 (fun j => if j < (k + 1) then nI (if j = 0 then 1 else 0) else lf j) :: zk_I 50 (fun j => if j < (k + 1) then nI (if j = 0 then 1 else 0) else rt j) :: r)) (by rw [← zf_upI (d := fun j => nI (if j = 0 then 1 else 0)), ← zf_upI (d := fun j => nI (if j = 0 then 1 else 0)), if_pos h14]; rfl) ?_
            refine zr_iinc (v := nI (k + 1)) dMo_against_38 rfl (nI_1 _) (by decide) ?_
            refine zr_goto (tgt := 2) dMo_against_41 (by decide) ?_
            exact ih
    · refine zr_iload_n dMo_against_2 rfl ?_
      refine zr_bipush (v := nI 50) dMo_against_3 (by decide) ?_
      refine zr_icmp_geN (tgt := 44) (by omega) (by omega) dMo_against_5 (by decide) (fun h5 => ?_) (fun h5 => ?_)
      · refine zr_aload_n dMo_against_44 rfl rfl ?_
        refine zr_invV (c_Mo_vocabulary hla hsz) m_Mo_vocabulary k_Mo_106 v_Mo_vocabulary rfl rfl dMo_against_45 rfl (Nat.le_of_ble_eq_true rfl) (by decide) (Nat.le_of_ble_eq_true rfl) rfl (fun v w2 hp => ?_)
        obtain ⟨rfl, rfl⟩ := hp
        refine ⟨rfl, ?_⟩
        refine zr_iconst (v := nI 1) dMo_against_48 (by decide) ?_
        refine zr_iaddN dMo_against_49 ?_
        refine zr_istore_n dMo_against_50 (by decide) ?_
        refine zr_aload_n dMo_against_51 rfl rfl ?_
        refine zr_iload_n dMo_against_52 rfl ?_
        refine zr_invV (c_Mo_total_of hla hsz hn4 ha) m_Mo_total k_Mo_109 v_Mo_total rfl rfl dMo_against_53 rfl (Nat.le_of_ble_eq_true rfl) (by decide) (Nat.le_of_ble_eq_true rfl) rfl (fun v w2 hp => ?_)
        obtain ⟨rfl, rfl⟩ := hp
        refine ⟨rfl, ?_⟩
        refine zr_iload_n dMo_against_56 rfl ?_
        refine zr_iaddN dMo_against_57 ?_
        refine zr_istore dMo_against_58 (by decide) ?_
        refine zr_aload_n dMo_against_60 rfl rfl ?_
        refine zr_iload_n dMo_against_61 rfl ?_
        refine zr_invV (c_Mo_total_of hla hsz hn4 hb) m_Mo_total k_Mo_109 v_Mo_total rfl rfl dMo_against_62 rfl (Nat.le_of_ble_eq_true rfl) (by decide) (Nat.le_of_ble_eq_true rfl) rfl (fun v w2 hp => ?_)
        obtain ⟨rfl, rfl⟩ := hp
        refine ⟨rfl, ?_⟩
        refine zr_iload_n dMo_against_65 rfl ?_
        refine zr_iaddN dMo_against_66 ?_
        refine zr_istore dMo_against_67 (by decide) ?_
        refine zr_aload_n dMo_against_69 rfl rfl ?_
        refine zr_iconst (v := nI 1) dMo_against_70 (by decide) ?_
        refine zr_aload_n dMo_against_71 rfl rfl ?_
        refine zr_iload_n dMo_against_72 rfl ?_
        refine zr_invV (c_Mo_docs_of hla hn4 ha) m_Mo_documents k_Mo_112 v_Mo_documents rfl rfl dMo_against_73 rfl (Nat.le_of_ble_eq_true rfl) (by decide) (Nat.le_of_ble_eq_true rfl) rfl (fun v w2 hp => ?_)
        obtain ⟨rfl, rfl⟩ := hp
        refine ⟨rfl, ?_⟩
        refine zr_invV (c_Mo_timesL (by have := hD a ha; show mo_D L a ≤ 1000; omega) (show mo_is _ 1 from ⟨fun j => if j = 0 then 1 else 0, fun j _ => by show (if j = 0 then 1 else 0) < 1000; split <;> omega, fun j hj => if_pos hj, by simp [wv]⟩) (by have := hD a ha; have h9 := mo_11; show 1 * mo_D L a < 1000 ^ 50; omega)) m_Mo_times k_Mo_115 v_Mo_times rfl rfl dMo_against_76 rfl (Nat.le_of_ble_eq_true rfl) (by decide) (Nat.le_of_ble_eq_true rfl) rfl (fun v w2 hp => ?_)
        obtain ⟨rfl, lf4, rfl, hl4⟩ := hp
        refine ⟨rfl, ?_⟩
        refine zr_aload_n dMo_against_79 rfl rfl ?_
        refine zr_iconst (v := nI 0) dMo_against_80 (by decide) ?_
        refine zr_aload_n dMo_against_81 rfl rfl ?_
        refine zr_iload_n dMo_against_82 rfl ?_
        refine zr_invV (c_Mo_docs_of hla hn4 hb) m_Mo_documents k_Mo_112 v_Mo_documents rfl rfl dMo_against_83 rfl (Nat.le_of_ble_eq_true rfl) (by decide) (Nat.le_of_ble_eq_true rfl) rfl (fun v w2 hp => ?_)
        obtain ⟨rfl, rfl⟩ := hp
        refine ⟨rfl, ?_⟩
        refine zr_invV (c_Mo_timesR (by have := hD b hb; show mo_D L b ≤ 1000; omega) (show mo_is _ 1 from ⟨fun j => if j = 0 then 1 else 0, fun j _ => by show (if j = 0 then 1 else 0) < 1000; split <;> omega, fun j hj => if_pos hj, by simp [wv]⟩) (by have := hD b hb; have h9 := mo_11; show 1 * mo_D L b < 1000 ^ 50; omega)) m_Mo_times k_Mo_115 v_Mo_times rfl rfl dMo_against_86 rfl (Nat.le_of_ble_eq_true rfl) (by decide) (Nat.le_of_ble_eq_true rfl) rfl (fun v w2 hp => ?_)
        obtain ⟨rfl, rt4, rfl, hr4⟩ := hp
        refine ⟨rfl, ?_⟩
        refine zr_aload_n dMo_against_89 rfl rfl ?_
        refine zr_invV (c_Mo_read hty hx hx16) m_Mo_read k_Mo_66 v_Mo_read rfl rfl dMo_against_90 rfl (Nat.le_of_ble_eq_true rfl) (by decide) (Nat.le_of_ble_eq_true rfl) rfl (fun v w2 hp => ?_)
        obtain ⟨rfl, cu2, le2, rfl, hmr⟩ := hp
        refine ⟨rfl, ?_⟩
        refine zr_iconst (v := nI 0) dMo_against_93 (by decide) ?_
        refine zr_istore dMo_against_94 (by decide) ?_
        rw [Nat.one_mul] at hl4 hr4
        exact key2 cu2 le2 hmr lf4 rt4 hl4 hr4
      · exfalso; omega
  show zw_Z G Y_Mo_against _ _ _ 0 0 0 [some (.ref 26), some (.int (nI a)), some (.int (nI b)), none, none, none, none] [] _
  refine zr_iconst (v := nI 0) dMo_against_0 (by decide) ?_
  refine zr_istore_n dMo_against_1 (by decide) ?_
  refine zr_wld (w2 := (c0 :: c1 :: c2 :: c3 :: c4 :: c5 :: c6 :: c7 :: c8 :: c9 :: c10 :: c11 :: c12 :: c13 :: c14 :: c15 :: c16 :: c17 :: c18 :: c19 :: c20 :: c21 :: c22 :: c23 :: c24 :: zk_Mo n ty wo ch :: zk_I 40 tx :: zk_L 20 cu :: zk_I 160 le :: zk_I 64 la :: zk_I 64 sz :: zk_L 1280 co :: zk_I 24 wh :: zk_I 24 wt :: zk_I 24 ma :: zk_I 24 bk :: zk_L 480 wr :: zk_I 50 (fun j => if j < 0 then nI (if j = 0 then 1 else 0) else lf j) :: zk_I 50 (fun j => if j < 0 then nI (if j = 0 then 1 else 0) else rt j) :: r)) (by rw [zf_if0 (d := fun j => nI (if j = 0 then 1 else 0)), zf_if0 (d := fun j => nI (if j = 0 then 1 else 0))]) ?_
  exact key1 0 (Nat.zero_le 50)
end
