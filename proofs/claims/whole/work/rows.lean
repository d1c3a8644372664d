section
-- ===== PART A: goes FIRST, ahead of the names: the tables' words, and 'selects' of the private methods out of them =====
/-- a private method of a class that the tables say can be made, by its rows of tables_1 -/
def lw_okq (q : MethodName × Nat) : Prop := (q.1.cls ≠ "java/lang/invoke/MethodHandle" ∧ q.1.cls ≠ "java/lang/invoke/VarHandle") ∧ Cond.instantiable q.1.cls q.2 ∈ tables_1 ∧ Cond.privateMethod q.1 ∈ tables_1 ∧ Cond.instanceMethod q.1 ∈ tables_1
theorem lw_p0 : lw_okq (⟨"PortTranslator", "judgeDraft", "()I"⟩, 5) := ⟨⟨by decide +kernel, by decide +kernel⟩, List.mem_of_getElem? (i := 16) (by decide +kernel), List.mem_of_getElem? (i := 216) (by decide +kernel), List.mem_of_getElem? (i := 217) (by decide +kernel)⟩
theorem lw_p1 : lw_okq (⟨"PortTranslator$Packet", "total", "(II)I"⟩, 2) := ⟨⟨by decide +kernel, by decide +kernel⟩, List.mem_of_getElem? (i := 24) (by decide +kernel), List.mem_of_getElem? (i := 225) (by decide +kernel), List.mem_of_getElem? (i := 226) (by decide +kernel)⟩
theorem lw_p2 : lw_okq (⟨"PortTranslator$Packet", "bodyAgrees", "()Z"⟩, 2) := ⟨⟨by decide +kernel, by decide +kernel⟩, List.mem_of_getElem? (i := 24) (by decide +kernel), List.mem_of_getElem? (i := 237) (by decide +kernel), List.mem_of_getElem? (i := 238) (by decide +kernel)⟩
theorem lw_p3 : lw_okq (⟨"PortTranslator$Packet", "bodyTotal", "()I"⟩, 2) := ⟨⟨by decide +kernel, by decide +kernel⟩, List.mem_of_getElem? (i := 24) (by decide +kernel), List.mem_of_getElem? (i := 241) (by decide +kernel), List.mem_of_getElem? (i := 242) (by decide +kernel)⟩
theorem lw_p4 : lw_okq (⟨"PortTranslator$Packet", "hasOtherPacket", "()Z"⟩, 2) := ⟨⟨by decide +kernel, by decide +kernel⟩, List.mem_of_getElem? (i := 24) (by decide +kernel), List.mem_of_getElem? (i := 257) (by decide +kernel), List.mem_of_getElem? (i := 258) (by decide +kernel)⟩
theorem lw_p5 : lw_okq (⟨"PortTranslator", "sendOut", "()I"⟩, 5) := ⟨⟨by decide +kernel, by decide +kernel⟩, List.mem_of_getElem? (i := 16) (by decide +kernel), List.mem_of_getElem? (i := 278) (by decide +kernel), List.mem_of_getElem? (i := 279) (by decide +kernel)⟩
theorem lw_p6 : lw_okq (⟨"PortTranslator", "mayBeginFlow", "()Z"⟩, 5) := ⟨⟨by decide +kernel, by decide +kernel⟩, List.mem_of_getElem? (i := 16) (by decide +kernel), List.mem_of_getElem? (i := 305) (by decide +kernel), List.mem_of_getElem? (i := 306) (by decide +kernel)⟩
theorem lw_p7 : lw_okq (⟨"PortTranslator$Rule", "holds", "(I)Z"⟩, 5) := ⟨⟨by decide +kernel, by decide +kernel⟩, List.mem_of_getElem? (i := 145) (by decide +kernel), List.mem_of_getElem? (i := 322) (by decide +kernel), List.mem_of_getElem? (i := 323) (by decide +kernel)⟩
theorem lw_p8 : lw_okq (⟨"PortTranslator$FlowTable", "binding", "(LPortTranslator$Subject;)I"⟩, 2) := ⟨⟨by decide +kernel, by decide +kernel⟩, List.mem_of_getElem? (i := 79) (by decide +kernel), List.mem_of_getElem? (i := 330) (by decide +kernel), List.mem_of_getElem? (i := 331) (by decide +kernel)⟩
theorem lw_p9 : lw_okq (⟨"PortTranslator$FlowTable", "leastFreePort", "(I)I"⟩, 2) := ⟨⟨by decide +kernel, by decide +kernel⟩, List.mem_of_getElem? (i := 79) (by decide +kernel), List.mem_of_getElem? (i := 334) (by decide +kernel), List.mem_of_getElem? (i := 335) (by decide +kernel)⟩
theorem lw_p10 : lw_okq (⟨"PortTranslator$FlowTable", "isTaken", "(II)Z"⟩, 2) := ⟨⟨by decide +kernel, by decide +kernel⟩, List.mem_of_getElem? (i := 79) (by decide +kernel), List.mem_of_getElem? (i := 340) (by decide +kernel), List.mem_of_getElem? (i := 341) (by decide +kernel)⟩
theorem lw_p11 : lw_okq (⟨"PortTranslator", "translate", "(III)V"⟩, 5) := ⟨⟨by decide +kernel, by decide +kernel⟩, List.mem_of_getElem? (i := 16) (by decide +kernel), List.mem_of_getElem? (i := 352) (by decide +kernel), List.mem_of_getElem? (i := 353) (by decide +kernel)⟩
theorem lw_p12 : lw_okq (⟨"PortTranslator$Packet", "adjust", "(II)V"⟩, 2) := ⟨⟨by decide +kernel, by decide +kernel⟩, List.mem_of_getElem? (i := 24) (by decide +kernel), List.mem_of_getElem? (i := 376) (by decide +kernel), List.mem_of_getElem? (i := 377) (by decide +kernel)⟩
theorem lw_p13 : lw_okq (⟨"PortTranslator", "note", "(LPortTranslator$Flow;Z)V"⟩, 5) := ⟨⟨by decide +kernel, by decide +kernel⟩, List.mem_of_getElem? (i := 16) (by decide +kernel), List.mem_of_getElem? (i := 381) (by decide +kernel), List.mem_of_getElem? (i := 382) (by decide +kernel)⟩
theorem lw_p14 : lw_okq (⟨"PortTranslator$FlowTable", "endAt", "(I)V"⟩, 2) := ⟨⟨by decide +kernel, by decide +kernel⟩, List.mem_of_getElem? (i := 79) (by decide +kernel), List.mem_of_getElem? (i := 393) (by decide +kernel), List.mem_of_getElem? (i := 394) (by decide +kernel)⟩
theorem lw_p15 : lw_okq (⟨"PortTranslator", "letIn", "()I"⟩, 5) := ⟨⟨by decide +kernel, by decide +kernel⟩, List.mem_of_getElem? (i := 16) (by decide +kernel), List.mem_of_getElem? (i := 397) (by decide +kernel), List.mem_of_getElem? (i := 398) (by decide +kernel)⟩
def lw_privs_1 : List (MethodName × Nat) := [(⟨"PortTranslator", "judgeDraft", "()I"⟩, 5), (⟨"PortTranslator$Packet", "total", "(II)I"⟩, 2), (⟨"PortTranslator$Packet", "bodyAgrees", "()Z"⟩, 2), (⟨"PortTranslator$Packet", "bodyTotal", "()I"⟩, 2), (⟨"PortTranslator$Packet", "hasOtherPacket", "()Z"⟩, 2), (⟨"PortTranslator", "sendOut", "()I"⟩, 5), (⟨"PortTranslator", "mayBeginFlow", "()Z"⟩, 5), (⟨"PortTranslator$Rule", "holds", "(I)Z"⟩, 5), (⟨"PortTranslator$FlowTable", "binding", "(LPortTranslator$Subject;)I"⟩, 2), (⟨"PortTranslator$FlowTable", "leastFreePort", "(I)I"⟩, 2), (⟨"PortTranslator$FlowTable", "isTaken", "(II)Z"⟩, 2), (⟨"PortTranslator", "translate", "(III)V"⟩, 5), (⟨"PortTranslator$Packet", "adjust", "(II)V"⟩, 2), (⟨"PortTranslator", "note", "(LPortTranslator$Flow;Z)V"⟩, 5), (⟨"PortTranslator$FlowTable", "endAt", "(I)V"⟩, 2), (⟨"PortTranslator", "letIn", "()I"⟩, 5)]
theorem lw_r1 : ∀ q ∈ lw_privs_1, lw_okq q := List.forall_mem_cons.mpr ⟨lw_p0, List.forall_mem_cons.mpr ⟨lw_p1, List.forall_mem_cons.mpr ⟨lw_p2, List.forall_mem_cons.mpr ⟨lw_p3, List.forall_mem_cons.mpr ⟨lw_p4, List.forall_mem_cons.mpr ⟨lw_p5, List.forall_mem_cons.mpr ⟨lw_p6, List.forall_mem_cons.mpr ⟨lw_p7, List.forall_mem_cons.mpr ⟨lw_p8, List.forall_mem_cons.mpr ⟨lw_p9, List.forall_mem_cons.mpr ⟨lw_p10, List.forall_mem_cons.mpr ⟨lw_p11, List.forall_mem_cons.mpr ⟨lw_p12, List.forall_mem_cons.mpr ⟨lw_p13, List.forall_mem_cons.mpr ⟨lw_p14, List.forall_mem_cons.mpr ⟨lw_p15, fun _ h => absurd h List.not_mem_nil⟩⟩⟩⟩⟩⟩⟩⟩⟩⟩⟩⟩⟩⟩⟩⟩
theorem lw_p16 : lw_okq (⟨"PortTranslator$Packet", "writeBodyChecksum", "(I)V"⟩, 2) := ⟨⟨by decide +kernel, by decide +kernel⟩, List.mem_of_getElem? (i := 24) (by decide +kernel), List.mem_of_getElem? (i := 410) (by decide +kernel), List.mem_of_getElem? (i := 411) (by decide +kernel)⟩
theorem lw_p17 : lw_okq (⟨"java/lang/Throwable", "fillInStackTrace", "(I)Ljava/lang/Throwable;"⟩, 6) := ⟨⟨by decide +kernel, by decide +kernel⟩, List.mem_of_getElem? (i := 482) (by decide +kernel), List.mem_of_getElem? (i := 480) (by decide +kernel), List.mem_of_getElem? (i := 481) (by decide +kernel)⟩
theorem lw_p18 : lw_okq (⟨"PortTranslator$Flow", "life", "()I"⟩, 10) := ⟨⟨by decide +kernel, by decide +kernel⟩, List.mem_of_getElem? (i := 86) (by decide +kernel), List.mem_of_getElem? (i := 538) (by decide +kernel), List.mem_of_getElem? (i := 539) (by decide +kernel)⟩
theorem lw_p19 : lw_okq (⟨"PortTranslatorModel", "well", "()Z"⟩, 18) := ⟨⟨by decide +kernel, by decide +kernel⟩, List.mem_of_getElem? (i := 579) (by decide +kernel), List.mem_of_getElem? (i := 658) (by decide +kernel), List.mem_of_getElem? (i := 659) (by decide +kernel)⟩
theorem lw_p20 : lw_okq (⟨"PortTranslatorModel", "total", "(II)I"⟩, 18) := ⟨⟨by decide +kernel, by decide +kernel⟩, List.mem_of_getElem? (i := 579) (by decide +kernel), List.mem_of_getElem? (i := 663) (by decide +kernel), List.mem_of_getElem? (i := 664) (by decide +kernel)⟩
theorem lw_p21 : lw_okq (⟨"PortTranslatorModel", "wellBody", "(I)Z"⟩, 18) := ⟨⟨by decide +kernel, by decide +kernel⟩, List.mem_of_getElem? (i := 579) (by decide +kernel), List.mem_of_getElem? (i := 675) (by decide +kernel), List.mem_of_getElem? (i := 676) (by decide +kernel)⟩
theorem lw_p22 : lw_okq (⟨"PortTranslatorModel", "bodyTotal", "(I)I"⟩, 18) := ⟨⟨by decide +kernel, by decide +kernel⟩, List.mem_of_getElem? (i := 579) (by decide +kernel), List.mem_of_getElem? (i := 679) (by decide +kernel), List.mem_of_getElem? (i := 680) (by decide +kernel)⟩
theorem lw_p23 : lw_okq (⟨"PortTranslatorModel", "isError", "()Z"⟩, 18) := ⟨⟨by decide +kernel, by decide +kernel⟩, List.mem_of_getElem? (i := 579) (by decide +kernel), List.mem_of_getElem? (i := 683) (by decide +kernel), List.mem_of_getElem? (i := 684) (by decide +kernel)⟩
theorem lw_p24 : lw_okq (⟨"PortTranslatorModel", "flowOf", "(Z)I"⟩, 18) := ⟨⟨by decide +kernel, by decide +kernel⟩, List.mem_of_getElem? (i := 579) (by decide +kernel), List.mem_of_getElem? (i := 687) (by decide +kernel), List.mem_of_getElem? (i := 688) (by decide +kernel)⟩
theorem lw_p25 : lw_okq (⟨"PortTranslatorModel", "address", "(I)I"⟩, 18) := ⟨⟨by decide +kernel, by decide +kernel⟩, List.mem_of_getElem? (i := 579) (by decide +kernel), List.mem_of_getElem? (i := 691) (by decide +kernel), List.mem_of_getElem? (i := 692) (by decide +kernel)⟩
theorem lw_p26 : lw_okq (⟨"PortTranslatorModel", "flowOfError", "(Z)I"⟩, 18) := ⟨⟨by decide +kernel, by decide +kernel⟩, List.mem_of_getElem? (i := 579) (by decide +kernel), List.mem_of_getElem? (i := 704) (by decide +kernel), List.mem_of_getElem? (i := 705) (by decide +kernel)⟩
theorem lw_p27 : lw_okq (⟨"PortTranslatorModel", "find", "(IIIZII)I"⟩, 18) := ⟨⟨by decide +kernel, by decide +kernel⟩, List.mem_of_getElem? (i := 579) (by decide +kernel), List.mem_of_getElem? (i := 708) (by decide +kernel), List.mem_of_getElem? (i := 709) (by decide +kernel)⟩
theorem lw_p28 : lw_okq (⟨"PortTranslatorModel", "begin", "(IIIII)I"⟩, 18) := ⟨⟨by decide +kernel, by decide +kernel⟩, List.mem_of_getElem? (i := 579) (by decide +kernel), List.mem_of_getElem? (i := 712) (by decide +kernel), List.mem_of_getElem? (i := 713) (by decide +kernel)⟩
theorem lw_p29 : lw_okq (⟨"PortTranslatorModel", "permitted", "(II)Z"⟩, 18) := ⟨⟨by decide +kernel, by decide +kernel⟩, List.mem_of_getElem? (i := 579) (by decide +kernel), List.mem_of_getElem? (i := 716) (by decide +kernel), List.mem_of_getElem? (i := 717) (by decide +kernel)⟩
theorem lw_p30 : lw_okq (⟨"PortTranslatorModel", "portFor", "(III)I"⟩, 18) := ⟨⟨by decide +kernel, by decide +kernel⟩, List.mem_of_getElem? (i := 579) (by decide +kernel), List.mem_of_getElem? (i := 720) (by decide +kernel), List.mem_of_getElem? (i := 721) (by decide +kernel)⟩
theorem lw_p31 : lw_okq (⟨"PortTranslatorModel", "rewrite", "(ZI)V"⟩, 18) := ⟨⟨by decide +kernel, by decide +kernel⟩, List.mem_of_getElem? (i := 579) (by decide +kernel), List.mem_of_getElem? (i := 726) (by decide +kernel), List.mem_of_getElem? (i := 727) (by decide +kernel)⟩
def lw_privs_2 : List (MethodName × Nat) := [(⟨"PortTranslator$Packet", "writeBodyChecksum", "(I)V"⟩, 2), (⟨"java/lang/Throwable", "fillInStackTrace", "(I)Ljava/lang/Throwable;"⟩, 6), (⟨"PortTranslator$Flow", "life", "()I"⟩, 10), (⟨"PortTranslatorModel", "well", "()Z"⟩, 18), (⟨"PortTranslatorModel", "total", "(II)I"⟩, 18), (⟨"PortTranslatorModel", "wellBody", "(I)Z"⟩, 18), (⟨"PortTranslatorModel", "bodyTotal", "(I)I"⟩, 18), (⟨"PortTranslatorModel", "isError", "()Z"⟩, 18), (⟨"PortTranslatorModel", "flowOf", "(Z)I"⟩, 18), (⟨"PortTranslatorModel", "address", "(I)I"⟩, 18), (⟨"PortTranslatorModel", "flowOfError", "(Z)I"⟩, 18), (⟨"PortTranslatorModel", "find", "(IIIZII)I"⟩, 18), (⟨"PortTranslatorModel", "begin", "(IIIII)I"⟩, 18), (⟨"PortTranslatorModel", "permitted", "(II)Z"⟩, 18), (⟨"PortTranslatorModel", "portFor", "(III)I"⟩, 18), (⟨"PortTranslatorModel", "rewrite", "(ZI)V"⟩, 18)]
theorem lw_r2 : ∀ q ∈ lw_privs_2, lw_okq q := List.forall_mem_cons.mpr ⟨lw_p16, List.forall_mem_cons.mpr ⟨lw_p17, List.forall_mem_cons.mpr ⟨lw_p18, List.forall_mem_cons.mpr ⟨lw_p19, List.forall_mem_cons.mpr ⟨lw_p20, List.forall_mem_cons.mpr ⟨lw_p21, List.forall_mem_cons.mpr ⟨lw_p22, List.forall_mem_cons.mpr ⟨lw_p23, List.forall_mem_cons.mpr ⟨lw_p24, List.forall_mem_cons.mpr ⟨lw_p25, List.forall_mem_cons.mpr ⟨lw_p26, List.forall_mem_cons.mpr ⟨lw_p27, List.forall_mem_cons.mpr ⟨lw_p28, List.forall_mem_cons.mpr ⟨lw_p29, List.forall_mem_cons.mpr ⟨lw_p30, List.forall_mem_cons.mpr ⟨lw_p31, fun _ h => absurd h List.not_mem_nil⟩⟩⟩⟩⟩⟩⟩⟩⟩⟩⟩⟩⟩⟩⟩⟩
theorem lw_p32 : lw_okq (⟨"PortTranslatorModel", "setAddress", "(II)V"⟩, 18) := ⟨⟨by decide +kernel, by decide +kernel⟩, List.mem_of_getElem? (i := 579) (by decide +kernel), List.mem_of_getElem? (i := 730) (by decide +kernel), List.mem_of_getElem? (i := 731) (by decide +kernel)⟩
theorem lw_p33 : lw_okq (⟨"PortTranslatorModel", "changeOther", "(IIII)V"⟩, 18) := ⟨⟨by decide +kernel, by decide +kernel⟩, List.mem_of_getElem? (i := 579) (by decide +kernel), List.mem_of_getElem? (i := 734) (by decide +kernel), List.mem_of_getElem? (i := 735) (by decide +kernel)⟩
theorem lw_p34 : lw_okq (⟨"PortTranslatorModel", "writeSums", "(I)V"⟩, 18) := ⟨⟨by decide +kernel, by decide +kernel⟩, List.mem_of_getElem? (i := 579) (by decide +kernel), List.mem_of_getElem? (i := 741) (by decide +kernel), List.mem_of_getElem? (i := 742) (by decide +kernel)⟩
theorem lw_p35 : lw_okq (⟨"PortTranslatorModel", "touch", "(ZI)V"⟩, 18) := ⟨⟨by decide +kernel, by decide +kernel⟩, List.mem_of_getElem? (i := 579) (by decide +kernel), List.mem_of_getElem? (i := 745) (by decide +kernel), List.mem_of_getElem? (i := 746) (by decide +kernel)⟩
theorem lw_p36 : lw_okq (⟨"PortTranslatorModel", "end", "(I)V"⟩, 18) := ⟨⟨by decide +kernel, by decide +kernel⟩, List.mem_of_getElem? (i := 579) (by decide +kernel), List.mem_of_getElem? (i := 749) (by decide +kernel), List.mem_of_getElem? (i := 750) (by decide +kernel)⟩
theorem lw_p37 : lw_okq (⟨"PortTranslatorModel", "life", "(I)I"⟩, 18) := ⟨⟨by decide +kernel, by decide +kernel⟩, List.mem_of_getElem? (i := 579) (by decide +kernel), List.mem_of_getElem? (i := 765) (by decide +kernel), List.mem_of_getElem? (i := 766) (by decide +kernel)⟩
theorem lw_p38 : lw_okq (⟨"PortTranslatorModel", "rules", "()I"⟩, 18) := ⟨⟨by decide +kernel, by decide +kernel⟩, List.mem_of_getElem? (i := 579) (by decide +kernel), List.mem_of_getElem? (i := 773) (by decide +kernel), List.mem_of_getElem? (i := 774) (by decide +kernel)⟩
def lw_privs_3 : List (MethodName × Nat) := [(⟨"PortTranslatorModel", "setAddress", "(II)V"⟩, 18), (⟨"PortTranslatorModel", "changeOther", "(IIII)V"⟩, 18), (⟨"PortTranslatorModel", "writeSums", "(I)V"⟩, 18), (⟨"PortTranslatorModel", "touch", "(ZI)V"⟩, 18), (⟨"PortTranslatorModel", "end", "(I)V"⟩, 18), (⟨"PortTranslatorModel", "life", "(I)I"⟩, 18), (⟨"PortTranslatorModel", "rules", "()I"⟩, 18)]
theorem lw_r3 : ∀ q ∈ lw_privs_3, lw_okq q := List.forall_mem_cons.mpr ⟨lw_p32, List.forall_mem_cons.mpr ⟨lw_p33, List.forall_mem_cons.mpr ⟨lw_p34, List.forall_mem_cons.mpr ⟨lw_p35, List.forall_mem_cons.mpr ⟨lw_p36, List.forall_mem_cons.mpr ⟨lw_p37, List.forall_mem_cons.mpr ⟨lw_p38, fun _ h => absurd h List.not_mem_nil⟩⟩⟩⟩⟩⟩⟩
def lw_privs : List (MethodName × Nat) := lw_privs_1 ++ (lw_privs_2 ++ (lw_privs_3))
def lw_tbl : List Cond := k2_sels lw_privs ++ tables_1
theorem lw_privs_ok : ∀ q ∈ lw_privs, lw_okq q := by
  show ∀ q ∈ lw_privs_1 ++ (lw_privs_2 ++ (lw_privs_3)), lw_okq q
  exact List.forall_mem_append.mpr ⟨lw_r1, List.forall_mem_append.mpr ⟨lw_r2, lw_r3⟩⟩
/-- the tables' words that a call may take along -/
def zz_TB : List Cond := lw_tbl.filter goodWord
theorem zz_in {w : Cond} (h : w ∈ lw_tbl) (g : goodWord w = true) : w ∈ zz_TB := List.mem_filter.mpr ⟨h, g⟩
theorem zz_t {w : Cond} (h : w ∈ tables_1) (g : goodWord w = true) : w ∈ zz_TB := zz_in (List.mem_append_right _ h) g
theorem zz_s {w : Cond} (h : w ∈ k2_sels lw_privs) (g : goodWord w = true) : w ∈ zz_TB := zz_in (List.mem_append_left _ h) g
theorem zz_1 {w : Cond} (h : w ∈ tables_1_1) : w ∈ tables_1 := List.mem_append_left _ h
theorem zz_2 {w : Cond} (h : w ∈ tables_1_2) : w ∈ tables_1 := List.mem_append_right _ (List.mem_append_left _ h)
theorem zz_3 {w : Cond} (h : w ∈ tables_1_3) : w ∈ tables_1 := List.mem_append_right _ (List.mem_append_right _ (List.mem_append_left _ h))
theorem zz_4 {w : Cond} (h : w ∈ tables_1_4) : w ∈ tables_1 := List.mem_append_right _ (List.mem_append_right _ (List.mem_append_right _ h))
/-- words that are kept by the run but not by every call: they go along in the world -/
def zz_JW : List Cond := [(Jvm.Cond.methodLinkNest "PortTranslator$Packet" (54 : Nat) ({ cls := "PortTranslator", name := "isKind", desc := "(I)Z" } : Jvm.MethodName) "PortTranslator"), (Jvm.Cond.castable "java/lang/IndexOutOfBoundsException" "java/lang/IndexOutOfBoundsException"), (Jvm.Cond.declares ({ cls := "java/lang/RuntimeException", name := "<init>", desc := "()V" } : Jvm.MethodName)), (Jvm.Cond.declares ({ cls := "java/lang/RuntimeException", name := "<init>", desc := "(Ljava/lang/String;)V" } : Jvm.MethodName)), (Jvm.Cond.declares ({ cls := "java/lang/Exception", name := "<init>", desc := "()V" } : Jvm.MethodName)), (Jvm.Cond.declares ({ cls := "java/lang/Exception", name := "<init>", desc := "(Ljava/lang/String;)V" } : Jvm.MethodName)), (Jvm.Cond.declares ({ cls := "java/lang/Throwable", name := "<init>", desc := "()V" } : Jvm.MethodName)), (Jvm.Cond.declares ({ cls := "java/lang/Throwable", name := "<init>", desc := "(Ljava/lang/String;)V" } : Jvm.MethodName)), (Jvm.Cond.castable "java/lang/IllegalArgumentException" "java/lang/IllegalArgumentException")]
theorem zj_260 : (Jvm.Cond.methodLinkNest "PortTranslator$Packet" (54 : Nat) ({ cls := "PortTranslator", name := "isKind", desc := "(I)Z" } : Jvm.MethodName) "PortTranslator") ∈ zz_JW := List.mem_of_getElem? (i := 0) rfl
theorem zj_446 : (Jvm.Cond.castable "java/lang/IndexOutOfBoundsException" "java/lang/IndexOutOfBoundsException") ∈ zz_JW := List.mem_of_getElem? (i := 1) rfl
theorem zj_447 : (Jvm.Cond.declares ({ cls := "java/lang/RuntimeException", name := "<init>", desc := "()V" } : Jvm.MethodName)) ∈ zz_JW := List.mem_of_getElem? (i := 2) rfl
theorem zj_448 : (Jvm.Cond.declares ({ cls := "java/lang/RuntimeException", name := "<init>", desc := "(Ljava/lang/String;)V" } : Jvm.MethodName)) ∈ zz_JW := List.mem_of_getElem? (i := 3) rfl
theorem zj_449 : (Jvm.Cond.declares ({ cls := "java/lang/Exception", name := "<init>", desc := "()V" } : Jvm.MethodName)) ∈ zz_JW := List.mem_of_getElem? (i := 4) rfl
theorem zj_450 : (Jvm.Cond.declares ({ cls := "java/lang/Exception", name := "<init>", desc := "(Ljava/lang/String;)V" } : Jvm.MethodName)) ∈ zz_JW := List.mem_of_getElem? (i := 5) rfl
theorem zj_451 : (Jvm.Cond.declares ({ cls := "java/lang/Throwable", name := "<init>", desc := "()V" } : Jvm.MethodName)) ∈ zz_JW := List.mem_of_getElem? (i := 6) rfl
theorem zj_452 : (Jvm.Cond.declares ({ cls := "java/lang/Throwable", name := "<init>", desc := "(Ljava/lang/String;)V" } : Jvm.MethodName)) ∈ zz_JW := List.mem_of_getElem? (i := 7) rfl
theorem zj_516 : (Jvm.Cond.castable "java/lang/IllegalArgumentException" "java/lang/IllegalArgumentException") ∈ zz_JW := List.mem_of_getElem? (i := 8) rfl
end
section
theorem zw_0 : (Jvm.Cond.initialized "PortTranslatorLaw") ∈ zz_TB := zz_t (zz_1 (List.mem_of_getElem? (i := 0) rfl)) rfl
theorem zw_1 : (Jvm.Cond.initialized "PortTranslator") ∈ zz_TB := zz_t (zz_1 (List.mem_of_getElem? (i := 1) rfl)) rfl
theorem zw_2 : (Jvm.Cond.initialized "PortTranslator$Packet") ∈ zz_TB := zz_t (zz_1 (List.mem_of_getElem? (i := 2) rfl)) rfl
theorem zw_3 : (Jvm.Cond.initialized "PortTranslator$Subject") ∈ zz_TB := zz_t (zz_1 (List.mem_of_getElem? (i := 3) rfl)) rfl
theorem zw_4 : (Jvm.Cond.initialized "PortTranslator$FlowTable") ∈ zz_TB := zz_t (zz_1 (List.mem_of_getElem? (i := 4) rfl)) rfl
theorem zw_5 : (Jvm.Cond.initialized "PortTranslator$Flow") ∈ zz_TB := zz_t (zz_1 (List.mem_of_getElem? (i := 5) rfl)) rfl
theorem zw_6 : (Jvm.Cond.initialized "PortTranslator$RuleList") ∈ zz_TB := zz_t (zz_1 (List.mem_of_getElem? (i := 6) rfl)) rfl
theorem zw_7 : (Jvm.Cond.initialized "PortTranslator$Rule") ∈ zz_TB := zz_t (zz_1 (List.mem_of_getElem? (i := 7) rfl)) rfl
theorem zw_8 : (Jvm.Cond.initialized "PortTranslatorModel") ∈ zz_TB := zz_t (zz_1 (List.mem_of_getElem? (i := 8) rfl)) rfl
theorem zw_9 : (Jvm.Cond.initialized "java/lang/System") ∈ zz_TB := zz_t (zz_1 (List.mem_of_getElem? (i := 9) rfl)) rfl
theorem zw_10 : (Jvm.Cond.initialized "java/lang/Throwable") ∈ zz_TB := zz_t (zz_1 (List.mem_of_getElem? (i := 10) rfl)) rfl
theorem zw_11 : (Jvm.Cond.initialized "java/lang/Exception") ∈ zz_TB := zz_t (zz_1 (List.mem_of_getElem? (i := 11) rfl)) rfl
theorem zw_12 : (Jvm.Cond.initialized "java/lang/RuntimeException") ∈ zz_TB := zz_t (zz_1 (List.mem_of_getElem? (i := 12) rfl)) rfl
theorem zw_13 : (Jvm.Cond.initialized "java/lang/IndexOutOfBoundsException") ∈ zz_TB := zz_t (zz_1 (List.mem_of_getElem? (i := 13) rfl)) rfl
theorem zw_14 : (Jvm.Cond.initialized "java/lang/IllegalArgumentException") ∈ zz_TB := zz_t (zz_1 (List.mem_of_getElem? (i := 14) rfl)) rfl
theorem zw_15 : (Jvm.Cond.classLink "PortTranslatorLaw" (8 : Nat) "PortTranslator") ∈ zz_TB := zz_t (zz_1 (List.mem_of_getElem? (i := 15) rfl)) rfl
theorem zw_16 : (Jvm.Cond.instantiable "PortTranslator" (5 : Nat)) ∈ zz_TB := zz_t (zz_1 (List.mem_of_getElem? (i := 16) rfl)) rfl
theorem zw_17 : (Jvm.Cond.methodLink "PortTranslatorLaw" (31 : Nat) ({ cls := "PortTranslator", name := "<init>", desc := "()V" } : Jvm.MethodName)) ∈ zz_TB := zz_t (zz_1 (List.mem_of_getElem? (i := 17) rfl)) rfl
theorem zw_18 : (Jvm.Cond.instanceMethod ({ cls := "PortTranslator", name := "<init>", desc := "()V" } : Jvm.MethodName)) ∈ zz_TB := zz_t (zz_1 (List.mem_of_getElem? (i := 18) rfl)) rfl
theorem zw_19 : (Jvm.Cond.code ({ cls := "PortTranslator", name := "<init>", desc := "()V" } : Jvm.MethodName) prog_1_method_1_code (1 : Nat) (Option.none : Option Jvm.ClassFile.FieldType)) ∈ zz_TB := zz_t (zz_1 (List.mem_of_getElem? (i := 19) rfl)) rfl
theorem zw_20 : (Jvm.Cond.methodLink "PortTranslator" (1 : Nat) ({ cls := "java/lang/Object", name := "<init>", desc := "()V" } : Jvm.MethodName)) ∈ zz_TB := zz_t (zz_1 (List.mem_of_getElem? (i := 20) rfl)) rfl
theorem zw_21 : (Jvm.Cond.instanceMethod ({ cls := "java/lang/Object", name := "<init>", desc := "()V" } : Jvm.MethodName)) ∈ zz_TB := zz_t (zz_1 (List.mem_of_getElem? (i := 21) rfl)) rfl
theorem zw_22 : (Jvm.Cond.code ({ cls := "java/lang/Object", name := "<init>", desc := "()V" } : Jvm.MethodName) object_method_1_code (1 : Nat) (Option.none : Option Jvm.ClassFile.FieldType)) ∈ zz_TB := zz_t (zz_1 (List.mem_of_getElem? (i := 22) rfl)) rfl
theorem zw_23 : (Jvm.Cond.classLink "PortTranslator" (7 : Nat) "PortTranslator$Packet") ∈ zz_TB := zz_t (zz_1 (List.mem_of_getElem? (i := 23) rfl)) rfl
theorem zw_24 : (Jvm.Cond.instantiable "PortTranslator$Packet" (2 : Nat)) ∈ zz_TB := zz_t (zz_1 (List.mem_of_getElem? (i := 24) rfl)) rfl
theorem zw_26 : (Jvm.Cond.instanceMethod ({ cls := "PortTranslator$Packet", name := "<init>", desc := "()V" } : Jvm.MethodName)) ∈ zz_TB := zz_t (zz_1 (List.mem_of_getElem? (i := 26) rfl)) rfl
theorem zw_27 : (Jvm.Cond.code ({ cls := "PortTranslator$Packet", name := "<init>", desc := "()V" } : Jvm.MethodName) prog_4_method_1_code (1 : Nat) (Option.none : Option Jvm.ClassFile.FieldType)) ∈ zz_TB := zz_t (zz_1 (List.mem_of_getElem? (i := 27) rfl)) rfl
theorem zw_28 : (Jvm.Cond.methodLink "PortTranslator$Packet" (3 : Nat) ({ cls := "java/lang/Object", name := "<init>", desc := "()V" } : Jvm.MethodName)) ∈ zz_TB := zz_t (zz_1 (List.mem_of_getElem? (i := 28) rfl)) rfl
theorem zw_29 : (Jvm.Cond.fieldLink "PortTranslator$Packet" (11 : Nat) "PortTranslator$Packet" "words" "[I") ∈ zz_TB := zz_t (zz_1 (List.mem_of_getElem? (i := 29) rfl)) rfl
theorem zw_30 : (Jvm.Cond.fieldLink "PortTranslator$Subject" (43 : Nat) "PortTranslator$Packet" "words" "[I") ∈ zz_TB := zz_t (zz_1 (List.mem_of_getElem? (i := 30) rfl)) rfl
theorem zw_31 : (Jvm.Cond.fieldLink "PortTranslator" (80 : Nat) "PortTranslator$Packet" "words" "[I") ∈ zz_TB := zz_t (zz_1 (List.mem_of_getElem? (i := 31) rfl)) rfl
theorem zw_32 : (Jvm.Cond.fieldLink "PortTranslator$Packet" (15 : Nat) "PortTranslator$Packet" "size" "I") ∈ zz_TB := zz_t (zz_1 (List.mem_of_getElem? (i := 32) rfl)) rfl
theorem zw_33 : (Jvm.Cond.fieldLink "PortTranslator" (73 : Nat) "PortTranslator$Packet" "size" "I") ∈ zz_TB := zz_t (zz_1 (List.mem_of_getElem? (i := 33) rfl)) rfl
theorem zw_34 : (Jvm.Cond.laysFinal "PortTranslator$Packet" "PortTranslator$Packet" "words" "[I") ∈ zz_TB := zz_t (zz_1 (List.mem_of_getElem? (i := 34) rfl)) rfl
theorem zw_36 : (Jvm.Cond.lays "PortTranslator$Packet" "PortTranslator$Packet" "size" "I") ∈ zz_TB := zz_t (zz_1 (List.mem_of_getElem? (i := 36) rfl)) rfl
theorem zw_38 : (Jvm.Cond.superclass "PortTranslator$Packet" "java/lang/Object") ∈ zz_TB := zz_t (zz_1 (List.mem_of_getElem? (i := 38) rfl)) rfl
theorem zw_39 : (Jvm.Cond.arrayClass Jvm.ClassFile.FieldType.int) ∈ zz_TB := zz_t (zz_1 (List.mem_of_getElem? (i := 39) rfl)) rfl
theorem zw_40 : (Jvm.Cond.classLink "PortTranslator" (19 : Nat) "PortTranslator$Subject") ∈ zz_TB := zz_t (zz_1 (List.mem_of_getElem? (i := 40) rfl)) rfl
theorem zw_41 : (Jvm.Cond.instantiable "PortTranslator$Subject" (7 : Nat)) ∈ zz_TB := zz_t (zz_1 (List.mem_of_getElem? (i := 41) rfl)) rfl
theorem zw_43 : (Jvm.Cond.instanceMethod ({ cls := "PortTranslator$Subject", name := "<init>", desc := "()V" } : Jvm.MethodName)) ∈ zz_TB := zz_t (zz_1 (List.mem_of_getElem? (i := 43) rfl)) rfl
theorem zw_44 : (Jvm.Cond.code ({ cls := "PortTranslator$Subject", name := "<init>", desc := "()V" } : Jvm.MethodName) prog_7_method_1_code (1 : Nat) (Option.none : Option Jvm.ClassFile.FieldType)) ∈ zz_TB := zz_t (zz_1 (List.mem_of_getElem? (i := 44) rfl)) rfl
theorem zw_45 : (Jvm.Cond.methodLink "PortTranslator$Subject" (3 : Nat) ({ cls := "java/lang/Object", name := "<init>", desc := "()V" } : Jvm.MethodName)) ∈ zz_TB := zz_t (zz_1 (List.mem_of_getElem? (i := 45) rfl)) rfl
theorem zw_46 : (Jvm.Cond.fieldLink "PortTranslator$Flow" (9 : Nat) "PortTranslator$Subject" "kind" "I") ∈ zz_TB := zz_t (zz_1 (List.mem_of_getElem? (i := 46) rfl)) rfl
theorem zw_47 : (Jvm.Cond.fieldLink "PortTranslator$Subject" (19 : Nat) "PortTranslator$Subject" "kind" "I") ∈ zz_TB := zz_t (zz_1 (List.mem_of_getElem? (i := 47) rfl)) rfl
theorem zw_48 : (Jvm.Cond.fieldLink "PortTranslator$FlowTable" (29 : Nat) "PortTranslator$Subject" "kind" "I") ∈ zz_TB := zz_t (zz_1 (List.mem_of_getElem? (i := 48) rfl)) rfl
theorem zw_49 : (Jvm.Cond.fieldLink "PortTranslator" (199 : Nat) "PortTranslator$Subject" "kind" "I") ∈ zz_TB := zz_t (zz_1 (List.mem_of_getElem? (i := 49) rfl)) rfl
theorem zw_50 : (Jvm.Cond.fieldLink "PortTranslator$Flow" (18 : Nat) "PortTranslator$Subject" "nearAddress" "I") ∈ zz_TB := zz_t (zz_1 (List.mem_of_getElem? (i := 50) rfl)) rfl
theorem zw_51 : (Jvm.Cond.fieldLink "PortTranslator$Subject" (31 : Nat) "PortTranslator$Subject" "nearAddress" "I") ∈ zz_TB := zz_t (zz_1 (List.mem_of_getElem? (i := 51) rfl)) rfl
theorem zw_52 : (Jvm.Cond.fieldLink "PortTranslator" (173 : Nat) "PortTranslator$Subject" "nearAddress" "I") ∈ zz_TB := zz_t (zz_1 (List.mem_of_getElem? (i := 52) rfl)) rfl
theorem zw_53 : (Jvm.Cond.fieldLink "PortTranslator$Flow" (24 : Nat) "PortTranslator$Subject" "nearPort" "I") ∈ zz_TB := zz_t (zz_1 (List.mem_of_getElem? (i := 53) rfl)) rfl
theorem zw_54 : (Jvm.Cond.fieldLink "PortTranslator$Subject" (47 : Nat) "PortTranslator$Subject" "nearPort" "I") ∈ zz_TB := zz_t (zz_1 (List.mem_of_getElem? (i := 54) rfl)) rfl
theorem zw_55 : (Jvm.Cond.fieldLink "PortTranslator$FlowTable" (34 : Nat) "PortTranslator$Subject" "nearPort" "I") ∈ zz_TB := zz_t (zz_1 (List.mem_of_getElem? (i := 55) rfl)) rfl
theorem zw_56 : (Jvm.Cond.fieldLink "PortTranslator$Flow" (30 : Nat) "PortTranslator$Subject" "farAddress" "I") ∈ zz_TB := zz_t (zz_1 (List.mem_of_getElem? (i := 56) rfl)) rfl
theorem zw_57 : (Jvm.Cond.fieldLink "PortTranslator$Subject" (34 : Nat) "PortTranslator$Subject" "farAddress" "I") ∈ zz_TB := zz_t (zz_1 (List.mem_of_getElem? (i := 57) rfl)) rfl
theorem zw_58 : (Jvm.Cond.fieldLink "PortTranslator" (205 : Nat) "PortTranslator$Subject" "farAddress" "I") ∈ zz_TB := zz_t (zz_1 (List.mem_of_getElem? (i := 58) rfl)) rfl
theorem zw_59 : (Jvm.Cond.fieldLink "PortTranslator$Flow" (36 : Nat) "PortTranslator$Subject" "farPort" "I") ∈ zz_TB := zz_t (zz_1 (List.mem_of_getElem? (i := 59) rfl)) rfl
theorem zw_60 : (Jvm.Cond.fieldLink "PortTranslator$Subject" (40 : Nat) "PortTranslator$Subject" "farPort" "I") ∈ zz_TB := zz_t (zz_1 (List.mem_of_getElem? (i := 60) rfl)) rfl
theorem zw_61 : (Jvm.Cond.fieldLink "PortTranslator$Subject" (25 : Nat) "PortTranslator$Subject" "nearAddressIndex" "I") ∈ zz_TB := zz_t (zz_1 (List.mem_of_getElem? (i := 61) rfl)) rfl
theorem zw_62 : (Jvm.Cond.fieldLink "PortTranslator$Subject" (37 : Nat) "PortTranslator$Subject" "nearPortIndex" "I") ∈ zz_TB := zz_t (zz_1 (List.mem_of_getElem? (i := 62) rfl)) rfl
theorem zw_63 : (Jvm.Cond.lays "PortTranslator$Subject" "PortTranslator$Subject" "kind" "I") ∈ zz_TB := zz_t (zz_1 (List.mem_of_getElem? (i := 63) rfl)) rfl
theorem zw_65 : (Jvm.Cond.lays "PortTranslator$Subject" "PortTranslator$Subject" "nearAddress" "I") ∈ zz_TB := zz_t (zz_1 (List.mem_of_getElem? (i := 65) rfl)) rfl
theorem zw_67 : (Jvm.Cond.lays "PortTranslator$Subject" "PortTranslator$Subject" "nearPort" "I") ∈ zz_TB := zz_t (zz_1 (List.mem_of_getElem? (i := 67) rfl)) rfl
theorem zw_69 : (Jvm.Cond.lays "PortTranslator$Subject" "PortTranslator$Subject" "farAddress" "I") ∈ zz_TB := zz_t (zz_1 (List.mem_of_getElem? (i := 69) rfl)) rfl
theorem zw_71 : (Jvm.Cond.lays "PortTranslator$Subject" "PortTranslator$Subject" "farPort" "I") ∈ zz_TB := zz_t (zz_1 (List.mem_of_getElem? (i := 71) rfl)) rfl
theorem zw_73 : (Jvm.Cond.lays "PortTranslator$Subject" "PortTranslator$Subject" "nearAddressIndex" "I") ∈ zz_TB := zz_t (zz_1 (List.mem_of_getElem? (i := 73) rfl)) rfl
theorem zw_75 : (Jvm.Cond.lays "PortTranslator$Subject" "PortTranslator$Subject" "nearPortIndex" "I") ∈ zz_TB := zz_t (zz_1 (List.mem_of_getElem? (i := 75) rfl)) rfl
theorem zw_77 : (Jvm.Cond.superclass "PortTranslator$Subject" "java/lang/Object") ∈ zz_TB := zz_t (zz_1 (List.mem_of_getElem? (i := 77) rfl)) rfl
theorem zw_78 : (Jvm.Cond.classLink "PortTranslator" (26 : Nat) "PortTranslator$FlowTable") ∈ zz_TB := zz_t (zz_1 (List.mem_of_getElem? (i := 78) rfl)) rfl
theorem zw_79 : (Jvm.Cond.instantiable "PortTranslator$FlowTable" (2 : Nat)) ∈ zz_TB := zz_t (zz_1 (List.mem_of_getElem? (i := 79) rfl)) rfl
theorem zw_80 : (Jvm.Cond.methodLink "PortTranslator" (28 : Nat) ({ cls := "PortTranslator$FlowTable", name := "<init>", desc := "()V" } : Jvm.MethodName)) ∈ zz_TB := zz_t (zz_1 (List.mem_of_getElem? (i := 80) rfl)) rfl
theorem zw_81 : (Jvm.Cond.instanceMethod ({ cls := "PortTranslator$FlowTable", name := "<init>", desc := "()V" } : Jvm.MethodName)) ∈ zz_TB := zz_t (zz_1 (List.mem_of_getElem? (i := 81) rfl)) rfl
theorem zw_82 : (Jvm.Cond.code ({ cls := "PortTranslator$FlowTable", name := "<init>", desc := "()V" } : Jvm.MethodName) prog_3_method_1_code (2 : Nat) (Option.none : Option Jvm.ClassFile.FieldType)) ∈ zz_TB := zz_t (zz_1 (List.mem_of_getElem? (i := 82) rfl)) rfl
theorem zw_83 : (Jvm.Cond.methodLink "PortTranslator$FlowTable" (3 : Nat) ({ cls := "java/lang/Object", name := "<init>", desc := "()V" } : Jvm.MethodName)) ∈ zz_TB := zz_t (zz_1 (List.mem_of_getElem? (i := 83) rfl)) rfl
theorem zw_84 : (Jvm.Cond.classLink "PortTranslator$FlowTable" (11 : Nat) "PortTranslator$Flow") ∈ zz_TB := zz_t (zz_1 (List.mem_of_getElem? (i := 84) rfl)) rfl
theorem zw_86 : (Jvm.Cond.instantiable "PortTranslator$Flow" (10 : Nat)) ∈ zz_TB := zz_t (zz_1 (List.mem_of_getElem? (i := 86) rfl)) rfl
theorem zw_88 : (Jvm.Cond.instanceMethod ({ cls := "PortTranslator$Flow", name := "<init>", desc := "()V" } : Jvm.MethodName)) ∈ zz_TB := zz_t (zz_1 (List.mem_of_getElem? (i := 88) rfl)) rfl
theorem zw_89 : (Jvm.Cond.code ({ cls := "PortTranslator$Flow", name := "<init>", desc := "()V" } : Jvm.MethodName) prog_2_method_1_code (1 : Nat) (Option.none : Option Jvm.ClassFile.FieldType)) ∈ zz_TB := zz_t (zz_1 (List.mem_of_getElem? (i := 89) rfl)) rfl
theorem zw_90 : (Jvm.Cond.methodLink "PortTranslator$Flow" (3 : Nat) ({ cls := "java/lang/Object", name := "<init>", desc := "()V" } : Jvm.MethodName)) ∈ zz_TB := zz_t (zz_1 (List.mem_of_getElem? (i := 90) rfl)) rfl
theorem zw_91 : (Jvm.Cond.fieldLink "PortTranslator$Flow" (15 : Nat) "PortTranslator$Flow" "kind" "I") ∈ zz_TB := zz_t (zz_1 (List.mem_of_getElem? (i := 91) rfl)) rfl
theorem zw_92 : (Jvm.Cond.fieldLink "PortTranslator$Flow" (21 : Nat) "PortTranslator$Flow" "innerAddress" "I") ∈ zz_TB := zz_t (zz_1 (List.mem_of_getElem? (i := 92) rfl)) rfl
theorem zw_93 : (Jvm.Cond.fieldLink "PortTranslator" (153 : Nat) "PortTranslator$Flow" "innerAddress" "I") ∈ zz_TB := zz_t (zz_1 (List.mem_of_getElem? (i := 93) rfl)) rfl
theorem zw_94 : (Jvm.Cond.fieldLink "PortTranslator$Flow" (27 : Nat) "PortTranslator$Flow" "innerPort" "I") ∈ zz_TB := zz_t (zz_1 (List.mem_of_getElem? (i := 94) rfl)) rfl
theorem zw_95 : (Jvm.Cond.fieldLink "PortTranslator" (182 : Nat) "PortTranslator$Flow" "innerPort" "I") ∈ zz_TB := zz_t (zz_1 (List.mem_of_getElem? (i := 95) rfl)) rfl
theorem zw_96 : (Jvm.Cond.fieldLink "PortTranslator$Flow" (33 : Nat) "PortTranslator$Flow" "outerAddress" "I") ∈ zz_TB := zz_t (zz_1 (List.mem_of_getElem? (i := 96) rfl)) rfl
theorem zw_97 : (Jvm.Cond.fieldLink "PortTranslator$Flow" (39 : Nat) "PortTranslator$Flow" "outerPort" "I") ∈ zz_TB := zz_t (zz_1 (List.mem_of_getElem? (i := 97) rfl)) rfl
theorem zw_98 : (Jvm.Cond.fieldLink "PortTranslator$Flow" (42 : Nat) "PortTranslator$Flow" "ownPort" "I") ∈ zz_TB := zz_t (zz_1 (List.mem_of_getElem? (i := 98) rfl)) rfl
theorem zw_99 : (Jvm.Cond.fieldLink "PortTranslator$FlowTable" (53 : Nat) "PortTranslator$Flow" "ownPort" "I") ∈ zz_TB := zz_t (zz_1 (List.mem_of_getElem? (i := 99) rfl)) rfl
theorem zw_100 : (Jvm.Cond.fieldLink "PortTranslator" (162 : Nat) "PortTranslator$Flow" "ownPort" "I") ∈ zz_TB := zz_t (zz_1 (List.mem_of_getElem? (i := 100) rfl)) rfl
theorem zw_101 : (Jvm.Cond.fieldLink "PortTranslator$Flow" (45 : Nat) "PortTranslator$Flow" "age" "I") ∈ zz_TB := zz_t (zz_1 (List.mem_of_getElem? (i := 101) rfl)) rfl
theorem zw_102 : (Jvm.Cond.fieldLink "PortTranslator$FlowTable" (61 : Nat) "PortTranslator$Flow" "age" "I") ∈ zz_TB := zz_t (zz_1 (List.mem_of_getElem? (i := 102) rfl)) rfl
theorem zw_103 : (Jvm.Cond.fieldLink "PortTranslator" (212 : Nat) "PortTranslator$Flow" "age" "I") ∈ zz_TB := zz_t (zz_1 (List.mem_of_getElem? (i := 103) rfl)) rfl
theorem zw_104 : (Jvm.Cond.fieldLink "PortTranslator$Flow" (48 : Nat) "PortTranslator$Flow" "synCameBack" "Z") ∈ zz_TB := zz_t (zz_1 (List.mem_of_getElem? (i := 104) rfl)) rfl
theorem zw_105 : (Jvm.Cond.fieldLink "PortTranslator$Flow" (52 : Nat) "PortTranslator$Flow" "finWentOut" "Z") ∈ zz_TB := zz_t (zz_1 (List.mem_of_getElem? (i := 105) rfl)) rfl
theorem zw_106 : (Jvm.Cond.fieldLink "PortTranslator$Flow" (55 : Nat) "PortTranslator$Flow" "finCameIn" "Z") ∈ zz_TB := zz_t (zz_1 (List.mem_of_getElem? (i := 106) rfl)) rfl
theorem zw_107 : (Jvm.Cond.lays "PortTranslator$Flow" "PortTranslator$Flow" "kind" "I") ∈ zz_TB := zz_t (zz_1 (List.mem_of_getElem? (i := 107) rfl)) rfl
theorem zw_109 : (Jvm.Cond.lays "PortTranslator$Flow" "PortTranslator$Flow" "innerAddress" "I") ∈ zz_TB := zz_t (zz_1 (List.mem_of_getElem? (i := 109) rfl)) rfl
theorem zw_111 : (Jvm.Cond.lays "PortTranslator$Flow" "PortTranslator$Flow" "innerPort" "I") ∈ zz_TB := zz_t (zz_1 (List.mem_of_getElem? (i := 111) rfl)) rfl
theorem zw_113 : (Jvm.Cond.lays "PortTranslator$Flow" "PortTranslator$Flow" "outerAddress" "I") ∈ zz_TB := zz_t (zz_1 (List.mem_of_getElem? (i := 113) rfl)) rfl
theorem zw_115 : (Jvm.Cond.lays "PortTranslator$Flow" "PortTranslator$Flow" "outerPort" "I") ∈ zz_TB := zz_t (zz_1 (List.mem_of_getElem? (i := 115) rfl)) rfl
theorem zw_117 : (Jvm.Cond.lays "PortTranslator$Flow" "PortTranslator$Flow" "ownPort" "I") ∈ zz_TB := zz_t (zz_1 (List.mem_of_getElem? (i := 117) rfl)) rfl
theorem zw_119 : (Jvm.Cond.lays "PortTranslator$Flow" "PortTranslator$Flow" "age" "I") ∈ zz_TB := zz_t (zz_1 (List.mem_of_getElem? (i := 119) rfl)) rfl
theorem zw_121 : (Jvm.Cond.lays "PortTranslator$Flow" "PortTranslator$Flow" "synCameBack" "Z") ∈ zz_TB := zz_t (zz_1 (List.mem_of_getElem? (i := 121) rfl)) rfl
theorem zw_123 : (Jvm.Cond.lays "PortTranslator$Flow" "PortTranslator$Flow" "finWentOut" "Z") ∈ zz_TB := zz_t (zz_1 (List.mem_of_getElem? (i := 123) rfl)) rfl
theorem zw_125 : (Jvm.Cond.lays "PortTranslator$Flow" "PortTranslator$Flow" "finCameIn" "Z") ∈ zz_TB := zz_t (zz_1 (List.mem_of_getElem? (i := 125) rfl)) rfl
theorem zw_127 : (Jvm.Cond.superclass "PortTranslator$Flow" "java/lang/Object") ∈ zz_TB := zz_t (zz_1 (List.mem_of_getElem? (i := 127) rfl)) rfl
theorem zw_128 : (Jvm.Cond.fieldLink "PortTranslator$FlowTable" (13 : Nat) "PortTranslator$FlowTable" "rows" "[LPortTranslator$Flow;") ∈ zz_TB := zz_t (zz_1 (List.mem_of_getElem? (i := 128) rfl)) rfl
theorem zw_129 : (Jvm.Cond.fieldLink "PortTranslator" (116 : Nat) "PortTranslator$FlowTable" "rows" "[LPortTranslator$Flow;") ∈ zz_TB := zz_t (zz_1 (List.mem_of_getElem? (i := 129) rfl)) rfl
theorem zw_130 : (Jvm.Cond.fieldLink "PortTranslator$FlowTable" (18 : Nat) "PortTranslator$FlowTable" "count" "I") ∈ zz_TB := zz_t (zz_1 (List.mem_of_getElem? (i := 130) rfl)) rfl
theorem zw_131 : (Jvm.Cond.fieldLink "PortTranslator" (114 : Nat) "PortTranslator$FlowTable" "count" "I") ∈ zz_TB := zz_t (zz_1 (List.mem_of_getElem? (i := 131) rfl)) rfl
theorem zw_132 : (Jvm.Cond.laysFinal "PortTranslator$FlowTable" "PortTranslator$FlowTable" "rows" "[LPortTranslator$Flow;") ∈ zz_TB := zz_t (zz_1 (List.mem_of_getElem? (i := 132) rfl)) rfl
theorem zw_134 : (Jvm.Cond.lays "PortTranslator$FlowTable" "PortTranslator$FlowTable" "count" "I") ∈ zz_TB := zz_t (zz_1 (List.mem_of_getElem? (i := 134) rfl)) rfl
theorem zw_136 : (Jvm.Cond.superclass "PortTranslator$FlowTable" "java/lang/Object") ∈ zz_TB := zz_t (zz_1 (List.mem_of_getElem? (i := 136) rfl)) rfl
theorem zw_137 : (Jvm.Cond.classLink "PortTranslator" (33 : Nat) "PortTranslator$RuleList") ∈ zz_TB := zz_t (zz_1 (List.mem_of_getElem? (i := 137) rfl)) rfl
theorem zw_138 : (Jvm.Cond.instantiable "PortTranslator$RuleList" (1 : Nat)) ∈ zz_TB := zz_t (zz_1 (List.mem_of_getElem? (i := 138) rfl)) rfl
theorem zw_139 : (Jvm.Cond.methodLink "PortTranslator" (35 : Nat) ({ cls := "PortTranslator$RuleList", name := "<init>", desc := "()V" } : Jvm.MethodName)) ∈ zz_TB := zz_t (zz_1 (List.mem_of_getElem? (i := 139) rfl)) rfl
theorem zw_140 : (Jvm.Cond.instanceMethod ({ cls := "PortTranslator$RuleList", name := "<init>", desc := "()V" } : Jvm.MethodName)) ∈ zz_TB := zz_t (zz_1 (List.mem_of_getElem? (i := 140) rfl)) rfl
theorem zw_141 : (Jvm.Cond.code ({ cls := "PortTranslator$RuleList", name := "<init>", desc := "()V" } : Jvm.MethodName) prog_6_method_1_code (2 : Nat) (Option.none : Option Jvm.ClassFile.FieldType)) ∈ zz_TB := zz_t (zz_1 (List.mem_of_getElem? (i := 141) rfl)) rfl
theorem zw_142 : (Jvm.Cond.methodLink "PortTranslator$RuleList" (1 : Nat) ({ cls := "java/lang/Object", name := "<init>", desc := "()V" } : Jvm.MethodName)) ∈ zz_TB := zz_t (zz_1 (List.mem_of_getElem? (i := 142) rfl)) rfl
theorem zw_143 : (Jvm.Cond.classLink "PortTranslator$RuleList" (9 : Nat) "PortTranslator$Rule") ∈ zz_TB := zz_t (zz_1 (List.mem_of_getElem? (i := 143) rfl)) rfl
theorem zw_145 : (Jvm.Cond.instantiable "PortTranslator$Rule" (5 : Nat)) ∈ zz_TB := zz_t (zz_1 (List.mem_of_getElem? (i := 145) rfl)) rfl
theorem zw_147 : (Jvm.Cond.instanceMethod ({ cls := "PortTranslator$Rule", name := "<init>", desc := "()V" } : Jvm.MethodName)) ∈ zz_TB := zz_t (zz_1 (List.mem_of_getElem? (i := 147) rfl)) rfl
theorem zw_148 : (Jvm.Cond.code ({ cls := "PortTranslator$Rule", name := "<init>", desc := "()V" } : Jvm.MethodName) prog_5_method_1_code (1 : Nat) (Option.none : Option Jvm.ClassFile.FieldType)) ∈ zz_TB := zz_t (zz_1 (List.mem_of_getElem? (i := 148) rfl)) rfl
theorem zw_149 : (Jvm.Cond.methodLink "PortTranslator$Rule" (1 : Nat) ({ cls := "java/lang/Object", name := "<init>", desc := "()V" } : Jvm.MethodName)) ∈ zz_TB := zz_t (zz_1 (List.mem_of_getElem? (i := 149) rfl)) rfl
theorem zw_150 : (Jvm.Cond.fieldLink "PortTranslator$Rule" (7 : Nat) "PortTranslator$Rule" "isThere" "Z") ∈ zz_TB := zz_t (zz_1 (List.mem_of_getElem? (i := 150) rfl)) rfl
theorem zw_151 : (Jvm.Cond.fieldLink "PortTranslator$RuleList" (16 : Nat) "PortTranslator$Rule" "isThere" "Z") ∈ zz_TB := zz_t (zz_1 (List.mem_of_getElem? (i := 151) rfl)) rfl
theorem zw_152 : (Jvm.Cond.fieldLink "PortTranslator" (110 : Nat) "PortTranslator$Rule" "isThere" "Z") ∈ zz_TB := zz_t (zz_1 (List.mem_of_getElem? (i := 152) rfl)) rfl
theorem zw_153 : (Jvm.Cond.fieldLink "PortTranslator$Rule" (13 : Nat) "PortTranslator$Rule" "kind" "I") ∈ zz_TB := zz_t (zz_1 (List.mem_of_getElem? (i := 153) rfl)) rfl
theorem zw_154 : (Jvm.Cond.fieldLink "PortTranslator$Rule" (17 : Nat) "PortTranslator$Rule" "network" "I") ∈ zz_TB := zz_t (zz_1 (List.mem_of_getElem? (i := 154) rfl)) rfl
theorem zw_155 : (Jvm.Cond.fieldLink "PortTranslator$Rule" (20 : Nat) "PortTranslator$Rule" "bits" "I") ∈ zz_TB := zz_t (zz_1 (List.mem_of_getElem? (i := 155) rfl)) rfl
theorem zw_156 : (Jvm.Cond.fieldLink "PortTranslator$Rule" (23 : Nat) "PortTranslator$Rule" "permits" "Z") ∈ zz_TB := zz_t (zz_1 (List.mem_of_getElem? (i := 156) rfl)) rfl
theorem zw_157 : (Jvm.Cond.fieldLink "PortTranslator$RuleList" (24 : Nat) "PortTranslator$Rule" "permits" "Z") ∈ zz_TB := zz_t (zz_1 (List.mem_of_getElem? (i := 157) rfl)) rfl
theorem zw_158 : (Jvm.Cond.lays "PortTranslator$Rule" "PortTranslator$Rule" "isThere" "Z") ∈ zz_TB := zz_t (zz_1 (List.mem_of_getElem? (i := 158) rfl)) rfl
theorem zw_160 : (Jvm.Cond.lays "PortTranslator$Rule" "PortTranslator$Rule" "kind" "I") ∈ zz_TB := zz_t (zz_1 (List.mem_of_getElem? (i := 160) rfl)) rfl
theorem zw_162 : (Jvm.Cond.lays "PortTranslator$Rule" "PortTranslator$Rule" "network" "I") ∈ zz_TB := zz_t (zz_1 (List.mem_of_getElem? (i := 162) rfl)) rfl
theorem zw_164 : (Jvm.Cond.lays "PortTranslator$Rule" "PortTranslator$Rule" "bits" "I") ∈ zz_TB := zz_t (zz_1 (List.mem_of_getElem? (i := 164) rfl)) rfl
theorem zw_166 : (Jvm.Cond.lays "PortTranslator$Rule" "PortTranslator$Rule" "permits" "Z") ∈ zz_TB := zz_t (zz_1 (List.mem_of_getElem? (i := 166) rfl)) rfl
theorem zw_168 : (Jvm.Cond.superclass "PortTranslator$Rule" "java/lang/Object") ∈ zz_TB := zz_t (zz_1 (List.mem_of_getElem? (i := 168) rfl)) rfl
theorem zw_169 : (Jvm.Cond.fieldLink "PortTranslator$RuleList" (11 : Nat) "PortTranslator$RuleList" "rows" "[LPortTranslator$Rule;") ∈ zz_TB := zz_t (zz_1 (List.mem_of_getElem? (i := 169) rfl)) rfl
theorem zw_170 : (Jvm.Cond.fieldLink "PortTranslator" (97 : Nat) "PortTranslator$RuleList" "rows" "[LPortTranslator$Rule;") ∈ zz_TB := zz_t (zz_1 (List.mem_of_getElem? (i := 170) rfl)) rfl
theorem zw_171 : (Jvm.Cond.laysFinal "PortTranslator$RuleList" "PortTranslator$RuleList" "rows" "[LPortTranslator$Rule;") ∈ zz_TB := zz_t (zz_1 (List.mem_of_getElem? (i := 171) rfl)) rfl
theorem zw_173 : (Jvm.Cond.superclass "PortTranslator$RuleList" "java/lang/Object") ∈ zz_TB := zz_t (zz_1 (List.mem_of_getElem? (i := 173) rfl)) rfl
theorem zw_174 : (Jvm.Cond.fieldLink "PortTranslator" (10 : Nat) "PortTranslator" "draft" "LPortTranslator$Packet;") ∈ zz_TB := zz_t (zz_1 (List.mem_of_getElem? (i := 174) rfl)) rfl
theorem zw_175 : (Jvm.Cond.fieldLink "PortTranslator" (16 : Nat) "PortTranslator" "latest" "LPortTranslator$Packet;") ∈ zz_TB := zz_t (zz_1 (List.mem_of_getElem? (i := 175) rfl)) rfl
theorem zw_176 : (Jvm.Cond.fieldLink "PortTranslator" (22 : Nat) "PortTranslator" "subject" "LPortTranslator$Subject;") ∈ zz_TB := zz_t (zz_1 (List.mem_of_getElem? (i := 176) rfl)) rfl
theorem zw_177 : (Jvm.Cond.fieldLink "PortTranslator" (29 : Nat) "PortTranslator" "table" "LPortTranslator$FlowTable;") ∈ zz_TB := zz_t (zz_1 (List.mem_of_getElem? (i := 177) rfl)) rfl
theorem zw_178 : (Jvm.Cond.fieldLink "PortTranslator" (36 : Nat) "PortTranslator" "permissions" "LPortTranslator$RuleList;") ∈ zz_TB := zz_t (zz_1 (List.mem_of_getElem? (i := 178) rfl)) rfl
theorem zw_179 : (Jvm.Cond.laysFinal "PortTranslator" "PortTranslator" "draft" "LPortTranslator$Packet;") ∈ zz_TB := zz_t (zz_1 (List.mem_of_getElem? (i := 179) rfl)) rfl
theorem zw_181 : (Jvm.Cond.laysFinal "PortTranslator" "PortTranslator" "latest" "LPortTranslator$Packet;") ∈ zz_TB := zz_t (zz_1 (List.mem_of_getElem? (i := 181) rfl)) rfl
theorem zw_183 : (Jvm.Cond.laysFinal "PortTranslator" "PortTranslator" "subject" "LPortTranslator$Subject;") ∈ zz_TB := zz_t (zz_1 (List.mem_of_getElem? (i := 183) rfl)) rfl
theorem zw_185 : (Jvm.Cond.laysFinal "PortTranslator" "PortTranslator" "table" "LPortTranslator$FlowTable;") ∈ zz_TB := zz_t (zz_1 (List.mem_of_getElem? (i := 185) rfl)) rfl
theorem zw_187 : (Jvm.Cond.laysFinal "PortTranslator" "PortTranslator" "permissions" "LPortTranslator$RuleList;") ∈ zz_TB := zz_t (zz_1 (List.mem_of_getElem? (i := 187) rfl)) rfl
theorem zw_189 : (Jvm.Cond.superclass "PortTranslator" "java/lang/Object") ∈ zz_TB := zz_t (zz_1 (List.mem_of_getElem? (i := 189) rfl)) rfl
theorem zw_190 : (Jvm.Cond.methodLink "PortTranslatorLaw" (37 : Nat) ({ cls := "PortTranslator", name := "put", desc := "(IJ)Z" } : Jvm.MethodName)) ∈ zz_TB := zz_t (zz_1 (List.mem_of_getElem? (i := 190) rfl)) rfl
theorem zw_191 : (Jvm.Cond.instanceMethod ({ cls := "PortTranslator", name := "put", desc := "(IJ)Z" } : Jvm.MethodName)) ∈ zz_TB := zz_t (zz_1 (List.mem_of_getElem? (i := 191) rfl)) rfl
theorem zw_192 : (Jvm.Cond.selects "PortTranslator" ({ cls := "PortTranslator", name := "put", desc := "(IJ)Z" } : Jvm.MethodName) ({ cls := "PortTranslator", name := "put", desc := "(IJ)Z" } : Jvm.MethodName)) ∈ zz_TB := zz_t (zz_1 (List.mem_of_getElem? (i := 192) rfl)) rfl
theorem zw_193 : (Jvm.Cond.code ({ cls := "PortTranslator", name := "put", desc := "(IJ)Z" } : Jvm.MethodName) prog_1_method_2_code (5 : Nat) (Option.some Jvm.ClassFile.FieldType.boolean)) ∈ zz_TB := zz_t (zz_1 (List.mem_of_getElem? (i := 193) rfl)) rfl
theorem zw_194 : (Jvm.Cond.methodLink "PortTranslator" (40 : Nat) ({ cls := "PortTranslator$Packet", name := "hasRoomFor", desc := "(I)Z" } : Jvm.MethodName)) ∈ zz_TB := zz_t (zz_1 (List.mem_of_getElem? (i := 194) rfl)) rfl
theorem zw_195 : (Jvm.Cond.instanceMethod ({ cls := "PortTranslator$Packet", name := "hasRoomFor", desc := "(I)Z" } : Jvm.MethodName)) ∈ zz_TB := zz_t (zz_1 (List.mem_of_getElem? (i := 195) rfl)) rfl
theorem zw_196 : (Jvm.Cond.selects "PortTranslator$Packet" ({ cls := "PortTranslator$Packet", name := "hasRoomFor", desc := "(I)Z" } : Jvm.MethodName) ({ cls := "PortTranslator$Packet", name := "hasRoomFor", desc := "(I)Z" } : Jvm.MethodName)) ∈ zz_TB := zz_t (zz_1 (List.mem_of_getElem? (i := 196) rfl)) rfl
theorem zw_197 : (Jvm.Cond.code ({ cls := "PortTranslator$Packet", name := "hasRoomFor", desc := "(I)Z" } : Jvm.MethodName) prog_4_method_2_code (2 : Nat) (Option.some Jvm.ClassFile.FieldType.boolean)) ∈ zz_TB := zz_t (zz_1 (List.mem_of_getElem? (i := 197) rfl)) rfl
theorem zw_198 : (Jvm.Cond.constant "PortTranslator" (44 : Nat) (65535 : Int32)) ∈ zz_TB := zz_t (zz_1 (List.mem_of_getElem? (i := 198) rfl)) rfl
theorem zw_199 : (Jvm.Cond.methodLink "PortTranslator" (45 : Nat) ({ cls := "PortTranslator$Packet", name := "append", desc := "(I)V" } : Jvm.MethodName)) ∈ zz_TB := zz_t (zz_1 (List.mem_of_getElem? (i := 199) rfl)) rfl
theorem zw_200 : (Jvm.Cond.instanceMethod ({ cls := "PortTranslator$Packet", name := "append", desc := "(I)V" } : Jvm.MethodName)) ∈ zz_TB := zz_t (zz_1 (List.mem_of_getElem? (i := 200) rfl)) rfl
theorem zw_201 : (Jvm.Cond.selects "PortTranslator$Packet" ({ cls := "PortTranslator$Packet", name := "append", desc := "(I)V" } : Jvm.MethodName) ({ cls := "PortTranslator$Packet", name := "append", desc := "(I)V" } : Jvm.MethodName)) ∈ zz_TB := zz_t (zz_1 (List.mem_of_getElem? (i := 201) rfl)) rfl
theorem zw_202 : (Jvm.Cond.code ({ cls := "PortTranslator$Packet", name := "append", desc := "(I)V" } : Jvm.MethodName) prog_4_method_3_code (2 : Nat) (Option.none : Option Jvm.ClassFile.FieldType)) ∈ zz_TB := zz_t (zz_1 (List.mem_of_getElem? (i := 202) rfl)) rfl
theorem zw_203 : (Jvm.Cond.methodLink "PortTranslatorLaw" (42 : Nat) ({ cls := "PortTranslator", name := "scrap", desc := "()V" } : Jvm.MethodName)) ∈ zz_TB := zz_t (zz_1 (List.mem_of_getElem? (i := 203) rfl)) rfl
theorem zw_204 : (Jvm.Cond.instanceMethod ({ cls := "PortTranslator", name := "scrap", desc := "()V" } : Jvm.MethodName)) ∈ zz_TB := zz_t (zz_1 (List.mem_of_getElem? (i := 204) rfl)) rfl
theorem zw_205 : (Jvm.Cond.selects "PortTranslator" ({ cls := "PortTranslator", name := "scrap", desc := "()V" } : Jvm.MethodName) ({ cls := "PortTranslator", name := "scrap", desc := "()V" } : Jvm.MethodName)) ∈ zz_TB := zz_t (zz_1 (List.mem_of_getElem? (i := 205) rfl)) rfl
theorem zw_206 : (Jvm.Cond.code ({ cls := "PortTranslator", name := "scrap", desc := "()V" } : Jvm.MethodName) prog_1_method_3_code (1 : Nat) (Option.none : Option Jvm.ClassFile.FieldType)) ∈ zz_TB := zz_t (zz_1 (List.mem_of_getElem? (i := 206) rfl)) rfl
theorem zw_207 : (Jvm.Cond.methodLink "PortTranslator" (49 : Nat) ({ cls := "PortTranslator$Packet", name := "empty", desc := "()V" } : Jvm.MethodName)) ∈ zz_TB := zz_t (zz_1 (List.mem_of_getElem? (i := 207) rfl)) rfl
theorem zw_208 : (Jvm.Cond.instanceMethod ({ cls := "PortTranslator$Packet", name := "empty", desc := "()V" } : Jvm.MethodName)) ∈ zz_TB := zz_t (zz_1 (List.mem_of_getElem? (i := 208) rfl)) rfl
theorem zw_209 : (Jvm.Cond.selects "PortTranslator$Packet" ({ cls := "PortTranslator$Packet", name := "empty", desc := "()V" } : Jvm.MethodName) ({ cls := "PortTranslator$Packet", name := "empty", desc := "()V" } : Jvm.MethodName)) ∈ zz_TB := zz_t (zz_1 (List.mem_of_getElem? (i := 209) rfl)) rfl
theorem zw_210 : (Jvm.Cond.code ({ cls := "PortTranslator$Packet", name := "empty", desc := "()V" } : Jvm.MethodName) prog_4_method_4_code (1 : Nat) (Option.none : Option Jvm.ClassFile.FieldType)) ∈ zz_TB := zz_t (zz_1 (List.mem_of_getElem? (i := 210) rfl)) rfl
theorem zw_211 : (Jvm.Cond.methodLink "PortTranslatorLaw" (46 : Nat) ({ cls := "PortTranslator", name := "route", desc := "(Z)I" } : Jvm.MethodName)) ∈ zz_TB := zz_t (zz_1 (List.mem_of_getElem? (i := 211) rfl)) rfl
theorem zw_212 : (Jvm.Cond.instanceMethod ({ cls := "PortTranslator", name := "route", desc := "(Z)I" } : Jvm.MethodName)) ∈ zz_TB := zz_t (zz_1 (List.mem_of_getElem? (i := 212) rfl)) rfl
theorem zw_213 : (Jvm.Cond.selects "PortTranslator" ({ cls := "PortTranslator", name := "route", desc := "(Z)I" } : Jvm.MethodName) ({ cls := "PortTranslator", name := "route", desc := "(Z)I" } : Jvm.MethodName)) ∈ zz_TB := zz_t (zz_1 (List.mem_of_getElem? (i := 213) rfl)) rfl
theorem zw_214 : (Jvm.Cond.code ({ cls := "PortTranslator", name := "route", desc := "(Z)I" } : Jvm.MethodName) prog_1_method_4_code (3 : Nat) (Option.some Jvm.ClassFile.FieldType.int)) ∈ zz_TB := zz_t (zz_1 (List.mem_of_getElem? (i := 214) rfl)) rfl
theorem zw_215 : (Jvm.Cond.methodLink "PortTranslator" (52 : Nat) ({ cls := "PortTranslator", name := "judgeDraft", desc := "()I" } : Jvm.MethodName)) ∈ zz_TB := zz_t (zz_1 (List.mem_of_getElem? (i := 215) rfl)) rfl
theorem zw_217 : (Jvm.Cond.instanceMethod ({ cls := "PortTranslator", name := "judgeDraft", desc := "()I" } : Jvm.MethodName)) ∈ zz_TB := zz_t (zz_1 (List.mem_of_getElem? (i := 217) rfl)) rfl
theorem zw_218 : (Jvm.Cond.code ({ cls := "PortTranslator", name := "judgeDraft", desc := "()I" } : Jvm.MethodName) prog_1_method_16_code (1 : Nat) (Option.some Jvm.ClassFile.FieldType.int)) ∈ zz_TB := zz_t (zz_1 (List.mem_of_getElem? (i := 218) rfl)) rfl
theorem zw_219 : (Jvm.Cond.methodLink "PortTranslator" (133 : Nat) ({ cls := "PortTranslator$Packet", name := "isWellFormed", desc := "()Z" } : Jvm.MethodName)) ∈ zz_TB := zz_t (zz_1 (List.mem_of_getElem? (i := 219) rfl)) rfl
theorem zw_220 : (Jvm.Cond.instanceMethod ({ cls := "PortTranslator$Packet", name := "isWellFormed", desc := "()Z" } : Jvm.MethodName)) ∈ zz_TB := zz_t (zz_1 (List.mem_of_getElem? (i := 220) rfl)) rfl
theorem zw_221 : (Jvm.Cond.selects "PortTranslator$Packet" ({ cls := "PortTranslator$Packet", name := "isWellFormed", desc := "()Z" } : Jvm.MethodName) ({ cls := "PortTranslator$Packet", name := "isWellFormed", desc := "()Z" } : Jvm.MethodName)) ∈ zz_TB := zz_t (zz_1 (List.mem_of_getElem? (i := 221) rfl)) rfl
theorem zw_222 : (Jvm.Cond.code ({ cls := "PortTranslator$Packet", name := "isWellFormed", desc := "()Z" } : Jvm.MethodName) prog_4_method_6_code (1 : Nat) (Option.some Jvm.ClassFile.FieldType.boolean)) ∈ zz_TB := zz_t (zz_1 (List.mem_of_getElem? (i := 222) rfl)) rfl
theorem zw_223 : (Jvm.Cond.constant "PortTranslator$Packet" (25 : Nat) (49151 : Int32)) ∈ zz_TB := zz_t (zz_1 (List.mem_of_getElem? (i := 223) rfl)) rfl
theorem zw_224 : (Jvm.Cond.methodLink "PortTranslator$Packet" (26 : Nat) ({ cls := "PortTranslator$Packet", name := "total", desc := "(II)I" } : Jvm.MethodName)) ∈ zz_TB := zz_t (zz_1 (List.mem_of_getElem? (i := 224) rfl)) rfl
theorem zw_226 : (Jvm.Cond.instanceMethod ({ cls := "PortTranslator$Packet", name := "total", desc := "(II)I" } : Jvm.MethodName)) ∈ zz_TB := zz_t (zz_1 (List.mem_of_getElem? (i := 226) rfl)) rfl
theorem zw_227 : (Jvm.Cond.code ({ cls := "PortTranslator$Packet", name := "total", desc := "(II)I" } : Jvm.MethodName) prog_4_method_23_code (5 : Nat) (Option.some Jvm.ClassFile.FieldType.int)) ∈ zz_TB := zz_t (zz_1 (List.mem_of_getElem? (i := 227) rfl)) rfl
theorem zw_228 : (Jvm.Cond.methodLink "PortTranslator$Packet" (30 : Nat) ({ cls := "PortTranslator$Packet", name := "sum", desc := "(I)I" } : Jvm.MethodName)) ∈ zz_TB := zz_t (zz_1 (List.mem_of_getElem? (i := 228) rfl)) rfl
theorem zw_229 : (Jvm.Cond.static ({ cls := "PortTranslator$Packet", name := "sum", desc := "(I)I" } : Jvm.MethodName)) ∈ zz_TB := zz_t (zz_1 (List.mem_of_getElem? (i := 229) rfl)) rfl
theorem zw_230 : (Jvm.Cond.code ({ cls := "PortTranslator$Packet", name := "sum", desc := "(I)I" } : Jvm.MethodName) prog_4_method_24_code (2 : Nat) (Option.some Jvm.ClassFile.FieldType.int)) ∈ zz_TB := zz_t (zz_1 (List.mem_of_getElem? (i := 230) rfl)) rfl
theorem zw_231 : (Jvm.Cond.constant "PortTranslator$Packet" (34 : Nat) (65535 : Int32)) ∈ zz_TB := zz_t (zz_1 (List.mem_of_getElem? (i := 231) rfl)) rfl
theorem zw_232 : (Jvm.Cond.methodLink "PortTranslator$Packet" (35 : Nat) ({ cls := "PortTranslator$Packet", name := "kindAt", desc := "(I)I" } : Jvm.MethodName)) ∈ zz_TB := zz_t (zz_1 (List.mem_of_getElem? (i := 232) rfl)) rfl
theorem zw_233 : (Jvm.Cond.instanceMethod ({ cls := "PortTranslator$Packet", name := "kindAt", desc := "(I)I" } : Jvm.MethodName)) ∈ zz_TB := zz_t (zz_1 (List.mem_of_getElem? (i := 233) rfl)) rfl
theorem zw_234 : (Jvm.Cond.selects "PortTranslator$Packet" ({ cls := "PortTranslator$Packet", name := "kindAt", desc := "(I)I" } : Jvm.MethodName) ({ cls := "PortTranslator$Packet", name := "kindAt", desc := "(I)I" } : Jvm.MethodName)) ∈ zz_TB := zz_t (zz_1 (List.mem_of_getElem? (i := 234) rfl)) rfl
theorem zw_235 : (Jvm.Cond.code ({ cls := "PortTranslator$Packet", name := "kindAt", desc := "(I)I" } : Jvm.MethodName) prog_4_method_8_code (2 : Nat) (Option.some Jvm.ClassFile.FieldType.int)) ∈ zz_TB := zz_t (zz_1 (List.mem_of_getElem? (i := 235) rfl)) rfl
theorem zw_236 : (Jvm.Cond.methodLink "PortTranslator$Packet" (38 : Nat) ({ cls := "PortTranslator$Packet", name := "bodyAgrees", desc := "()Z" } : Jvm.MethodName)) ∈ zz_TB := zz_t (zz_1 (List.mem_of_getElem? (i := 236) rfl)) rfl
theorem zw_238 : (Jvm.Cond.instanceMethod ({ cls := "PortTranslator$Packet", name := "bodyAgrees", desc := "()Z" } : Jvm.MethodName)) ∈ zz_TB := zz_t (zz_1 (List.mem_of_getElem? (i := 238) rfl)) rfl
theorem zw_239 : (Jvm.Cond.code ({ cls := "PortTranslator$Packet", name := "bodyAgrees", desc := "()Z" } : Jvm.MethodName) prog_4_method_21_code (1 : Nat) (Option.some Jvm.ClassFile.FieldType.boolean)) ∈ zz_TB := zz_t (zz_1 (List.mem_of_getElem? (i := 239) rfl)) rfl
theorem zw_240 : (Jvm.Cond.methodLink "PortTranslator$Packet" (66 : Nat) ({ cls := "PortTranslator$Packet", name := "bodyTotal", desc := "()I" } : Jvm.MethodName)) ∈ zz_TB := zz_t (zz_2 (List.mem_of_getElem? (i := 0) rfl)) rfl
theorem zw_242 : (Jvm.Cond.instanceMethod ({ cls := "PortTranslator$Packet", name := "bodyTotal", desc := "()I" } : Jvm.MethodName)) ∈ zz_TB := zz_t (zz_2 (List.mem_of_getElem? (i := 2) rfl)) rfl
theorem zw_243 : (Jvm.Cond.code ({ cls := "PortTranslator$Packet", name := "bodyTotal", desc := "()I" } : Jvm.MethodName) prog_4_method_22_code (2 : Nat) (Option.some Jvm.ClassFile.FieldType.int)) ∈ zz_TB := zz_t (zz_2 (List.mem_of_getElem? (i := 3) rfl)) rfl
theorem zw_244 : (Jvm.Cond.methodLink "PortTranslator$Packet" (42 : Nat) ({ cls := "PortTranslator$Packet", name := "isEchoRequest", desc := "()Z" } : Jvm.MethodName)) ∈ zz_TB := zz_t (zz_2 (List.mem_of_getElem? (i := 4) rfl)) rfl
theorem zw_245 : (Jvm.Cond.instanceMethod ({ cls := "PortTranslator$Packet", name := "isEchoRequest", desc := "()Z" } : Jvm.MethodName)) ∈ zz_TB := zz_t (zz_2 (List.mem_of_getElem? (i := 5) rfl)) rfl
theorem zw_246 : (Jvm.Cond.selects "PortTranslator$Packet" ({ cls := "PortTranslator$Packet", name := "isEchoRequest", desc := "()Z" } : Jvm.MethodName) ({ cls := "PortTranslator$Packet", name := "isEchoRequest", desc := "()Z" } : Jvm.MethodName)) ∈ zz_TB := zz_t (zz_2 (List.mem_of_getElem? (i := 6) rfl)) rfl
theorem zw_247 : (Jvm.Cond.code ({ cls := "PortTranslator$Packet", name := "isEchoRequest", desc := "()Z" } : Jvm.MethodName) prog_4_method_12_code (1 : Nat) (Option.some Jvm.ClassFile.FieldType.boolean)) ∈ zz_TB := zz_t (zz_2 (List.mem_of_getElem? (i := 7) rfl)) rfl
theorem zw_248 : (Jvm.Cond.methodLink "PortTranslator$Packet" (45 : Nat) ({ cls := "PortTranslator$Packet", name := "isEchoReply", desc := "()Z" } : Jvm.MethodName)) ∈ zz_TB := zz_t (zz_2 (List.mem_of_getElem? (i := 8) rfl)) rfl
theorem zw_249 : (Jvm.Cond.instanceMethod ({ cls := "PortTranslator$Packet", name := "isEchoReply", desc := "()Z" } : Jvm.MethodName)) ∈ zz_TB := zz_t (zz_2 (List.mem_of_getElem? (i := 9) rfl)) rfl
theorem zw_250 : (Jvm.Cond.selects "PortTranslator$Packet" ({ cls := "PortTranslator$Packet", name := "isEchoReply", desc := "()Z" } : Jvm.MethodName) ({ cls := "PortTranslator$Packet", name := "isEchoReply", desc := "()Z" } : Jvm.MethodName)) ∈ zz_TB := zz_t (zz_2 (List.mem_of_getElem? (i := 10) rfl)) rfl
theorem zw_251 : (Jvm.Cond.code ({ cls := "PortTranslator$Packet", name := "isEchoReply", desc := "()Z" } : Jvm.MethodName) prog_4_method_13_code (1 : Nat) (Option.some Jvm.ClassFile.FieldType.boolean)) ∈ zz_TB := zz_t (zz_2 (List.mem_of_getElem? (i := 11) rfl)) rfl
theorem zw_252 : (Jvm.Cond.methodLink "PortTranslator$Packet" (48 : Nat) ({ cls := "PortTranslator$Packet", name := "isError", desc := "()Z" } : Jvm.MethodName)) ∈ zz_TB := zz_t (zz_2 (List.mem_of_getElem? (i := 12) rfl)) rfl
theorem zw_253 : (Jvm.Cond.instanceMethod ({ cls := "PortTranslator$Packet", name := "isError", desc := "()Z" } : Jvm.MethodName)) ∈ zz_TB := zz_t (zz_2 (List.mem_of_getElem? (i := 13) rfl)) rfl
theorem zw_254 : (Jvm.Cond.selects "PortTranslator$Packet" ({ cls := "PortTranslator$Packet", name := "isError", desc := "()Z" } : Jvm.MethodName) ({ cls := "PortTranslator$Packet", name := "isError", desc := "()Z" } : Jvm.MethodName)) ∈ zz_TB := zz_t (zz_2 (List.mem_of_getElem? (i := 14) rfl)) rfl
theorem zw_255 : (Jvm.Cond.code ({ cls := "PortTranslator$Packet", name := "isError", desc := "()Z" } : Jvm.MethodName) prog_4_method_14_code (2 : Nat) (Option.some Jvm.ClassFile.FieldType.boolean)) ∈ zz_TB := zz_t (zz_2 (List.mem_of_getElem? (i := 15) rfl)) rfl
theorem zw_256 : (Jvm.Cond.methodLink "PortTranslator$Packet" (51 : Nat) ({ cls := "PortTranslator$Packet", name := "hasOtherPacket", desc := "()Z" } : Jvm.MethodName)) ∈ zz_TB := zz_t (zz_2 (List.mem_of_getElem? (i := 16) rfl)) rfl
theorem zw_258 : (Jvm.Cond.instanceMethod ({ cls := "PortTranslator$Packet", name := "hasOtherPacket", desc := "()Z" } : Jvm.MethodName)) ∈ zz_TB := zz_t (zz_2 (List.mem_of_getElem? (i := 18) rfl)) rfl
theorem zw_259 : (Jvm.Cond.code ({ cls := "PortTranslator$Packet", name := "hasOtherPacket", desc := "()Z" } : Jvm.MethodName) prog_4_method_7_code (1 : Nat) (Option.some Jvm.ClassFile.FieldType.boolean)) ∈ zz_TB := zz_t (zz_2 (List.mem_of_getElem? (i := 19) rfl)) rfl
theorem zw_261 : (Jvm.Cond.static ({ cls := "PortTranslator", name := "isKind", desc := "(I)Z" } : Jvm.MethodName)) ∈ zz_TB := zz_t (zz_2 (List.mem_of_getElem? (i := 21) rfl)) rfl
theorem zw_262 : (Jvm.Cond.code ({ cls := "PortTranslator", name := "isKind", desc := "(I)Z" } : Jvm.MethodName) prog_1_method_13_code (1 : Nat) (Option.some Jvm.ClassFile.FieldType.boolean)) ∈ zz_TB := zz_t (zz_2 (List.mem_of_getElem? (i := 22) rfl)) rfl
theorem zw_263 : (Jvm.Cond.methodLink "PortTranslator" (137 : Nat) ({ cls := "PortTranslator$Packet", name := "time", desc := "()I" } : Jvm.MethodName)) ∈ zz_TB := zz_t (zz_2 (List.mem_of_getElem? (i := 23) rfl)) rfl
theorem zw_264 : (Jvm.Cond.instanceMethod ({ cls := "PortTranslator$Packet", name := "time", desc := "()I" } : Jvm.MethodName)) ∈ zz_TB := zz_t (zz_2 (List.mem_of_getElem? (i := 24) rfl)) rfl
theorem zw_265 : (Jvm.Cond.selects "PortTranslator$Packet" ({ cls := "PortTranslator$Packet", name := "time", desc := "()I" } : Jvm.MethodName) ({ cls := "PortTranslator$Packet", name := "time", desc := "()I" } : Jvm.MethodName)) ∈ zz_TB := zz_t (zz_2 (List.mem_of_getElem? (i := 25) rfl)) rfl
theorem zw_266 : (Jvm.Cond.code ({ cls := "PortTranslator$Packet", name := "time", desc := "()I" } : Jvm.MethodName) prog_4_method_9_code (1 : Nat) (Option.some Jvm.ClassFile.FieldType.int)) ∈ zz_TB := zz_t (zz_2 (List.mem_of_getElem? (i := 26) rfl)) rfl
theorem zw_267 : (Jvm.Cond.methodLink "PortTranslator" (56 : Nat) ({ cls := "PortTranslator$Subject", name := "read", desc := "(LPortTranslator$Packet;Z)V" } : Jvm.MethodName)) ∈ zz_TB := zz_t (zz_2 (List.mem_of_getElem? (i := 27) rfl)) rfl
theorem zw_268 : (Jvm.Cond.instanceMethod ({ cls := "PortTranslator$Subject", name := "read", desc := "(LPortTranslator$Packet;Z)V" } : Jvm.MethodName)) ∈ zz_TB := zz_t (zz_2 (List.mem_of_getElem? (i := 28) rfl)) rfl
theorem zw_269 : (Jvm.Cond.selects "PortTranslator$Subject" ({ cls := "PortTranslator$Subject", name := "read", desc := "(LPortTranslator$Packet;Z)V" } : Jvm.MethodName) ({ cls := "PortTranslator$Subject", name := "read", desc := "(LPortTranslator$Packet;Z)V" } : Jvm.MethodName)) ∈ zz_TB := zz_t (zz_2 (List.mem_of_getElem? (i := 29) rfl)) rfl
theorem zw_270 : (Jvm.Cond.code ({ cls := "PortTranslator$Subject", name := "read", desc := "(LPortTranslator$Packet;Z)V" } : Jvm.MethodName) prog_7_method_2_code (5 : Nat) (Option.none : Option Jvm.ClassFile.FieldType)) ∈ zz_TB := zz_t (zz_2 (List.mem_of_getElem? (i := 30) rfl)) rfl
theorem zw_271 : (Jvm.Cond.methodLink "PortTranslator$Subject" (9 : Nat) ({ cls := "PortTranslator$Packet", name := "isError", desc := "()Z" } : Jvm.MethodName)) ∈ zz_TB := zz_t (zz_2 (List.mem_of_getElem? (i := 31) rfl)) rfl
theorem zw_272 : (Jvm.Cond.methodLink "PortTranslator$Subject" (15 : Nat) ({ cls := "PortTranslator$Packet", name := "kindAt", desc := "(I)I" } : Jvm.MethodName)) ∈ zz_TB := zz_t (zz_2 (List.mem_of_getElem? (i := 32) rfl)) rfl
theorem zw_273 : (Jvm.Cond.methodLink "PortTranslator$Subject" (28 : Nat) ({ cls := "PortTranslator$Packet", name := "address", desc := "(I)I" } : Jvm.MethodName)) ∈ zz_TB := zz_t (zz_2 (List.mem_of_getElem? (i := 33) rfl)) rfl
theorem zw_274 : (Jvm.Cond.instanceMethod ({ cls := "PortTranslator$Packet", name := "address", desc := "(I)I" } : Jvm.MethodName)) ∈ zz_TB := zz_t (zz_2 (List.mem_of_getElem? (i := 34) rfl)) rfl
theorem zw_275 : (Jvm.Cond.selects "PortTranslator$Packet" ({ cls := "PortTranslator$Packet", name := "address", desc := "(I)I" } : Jvm.MethodName) ({ cls := "PortTranslator$Packet", name := "address", desc := "(I)I" } : Jvm.MethodName)) ∈ zz_TB := zz_t (zz_2 (List.mem_of_getElem? (i := 35) rfl)) rfl
theorem zw_276 : (Jvm.Cond.code ({ cls := "PortTranslator$Packet", name := "address", desc := "(I)I" } : Jvm.MethodName) prog_4_method_15_code (2 : Nat) (Option.some Jvm.ClassFile.FieldType.int)) ∈ zz_TB := zz_t (zz_2 (List.mem_of_getElem? (i := 36) rfl)) rfl
theorem zw_277 : (Jvm.Cond.methodLink "PortTranslator" (60 : Nat) ({ cls := "PortTranslator", name := "sendOut", desc := "()I" } : Jvm.MethodName)) ∈ zz_TB := zz_t (zz_2 (List.mem_of_getElem? (i := 37) rfl)) rfl
theorem zw_279 : (Jvm.Cond.instanceMethod ({ cls := "PortTranslator", name := "sendOut", desc := "()I" } : Jvm.MethodName)) ∈ zz_TB := zz_t (zz_2 (List.mem_of_getElem? (i := 39) rfl)) rfl
theorem zw_280 : (Jvm.Cond.code ({ cls := "PortTranslator", name := "sendOut", desc := "()I" } : Jvm.MethodName) prog_1_method_17_code (3 : Nat) (Option.some Jvm.ClassFile.FieldType.int)) ∈ zz_TB := zz_t (zz_2 (List.mem_of_getElem? (i := 40) rfl)) rfl
theorem zw_281 : (Jvm.Cond.methodLink "PortTranslator" (140 : Nat) ({ cls := "PortTranslator$Packet", name := "address", desc := "(I)I" } : Jvm.MethodName)) ∈ zz_TB := zz_t (zz_2 (List.mem_of_getElem? (i := 41) rfl)) rfl
theorem zw_282 : (Jvm.Cond.methodLink "PortTranslator" (129 : Nat) ({ cls := "PortTranslator", name := "isInside", desc := "(I)Z" } : Jvm.MethodName)) ∈ zz_TB := zz_t (zz_2 (List.mem_of_getElem? (i := 42) rfl)) rfl
theorem zw_283 : (Jvm.Cond.static ({ cls := "PortTranslator", name := "isInside", desc := "(I)Z" } : Jvm.MethodName)) ∈ zz_TB := zz_t (zz_2 (List.mem_of_getElem? (i := 43) rfl)) rfl
theorem zw_284 : (Jvm.Cond.code ({ cls := "PortTranslator", name := "isInside", desc := "(I)Z" } : Jvm.MethodName) prog_1_method_14_code (1 : Nat) (Option.some Jvm.ClassFile.FieldType.boolean)) ∈ zz_TB := zz_t (zz_2 (List.mem_of_getElem? (i := 44) rfl)) rfl
theorem zw_285 : (Jvm.Cond.constant "PortTranslator" (127 : Nat) (167772160 : Int32)) ∈ zz_TB := zz_t (zz_2 (List.mem_of_getElem? (i := 45) rfl)) rfl
theorem zw_286 : (Jvm.Cond.constant "PortTranslator" (128 : Nat) (167772415 : Int32)) ∈ zz_TB := zz_t (zz_2 (List.mem_of_getElem? (i := 46) rfl)) rfl
theorem zw_287 : (Jvm.Cond.methodLink "PortTranslator" (143 : Nat) ({ cls := "PortTranslator", name := "isOutside", desc := "(I)Z" } : Jvm.MethodName)) ∈ zz_TB := zz_t (zz_2 (List.mem_of_getElem? (i := 47) rfl)) rfl
theorem zw_288 : (Jvm.Cond.static ({ cls := "PortTranslator", name := "isOutside", desc := "(I)Z" } : Jvm.MethodName)) ∈ zz_TB := zz_t (zz_2 (List.mem_of_getElem? (i := 48) rfl)) rfl
theorem zw_289 : (Jvm.Cond.code ({ cls := "PortTranslator", name := "isOutside", desc := "(I)Z" } : Jvm.MethodName) prog_1_method_15_code (1 : Nat) (Option.some Jvm.ClassFile.FieldType.boolean)) ∈ zz_TB := zz_t (zz_2 (List.mem_of_getElem? (i := 49) rfl)) rfl
theorem zw_290 : (Jvm.Cond.constant "PortTranslator" (132 : Nat) (-969710591 : Int32)) ∈ zz_TB := zz_t (zz_2 (List.mem_of_getElem? (i := 50) rfl)) rfl
theorem zw_291 : (Jvm.Cond.methodLink "PortTranslator" (146 : Nat) ({ cls := "PortTranslator$FlowTable", name := "findByInner", desc := "(LPortTranslator$Subject;)LPortTranslator$Flow;" } : Jvm.MethodName)) ∈ zz_TB := zz_t (zz_2 (List.mem_of_getElem? (i := 51) rfl)) rfl
theorem zw_292 : (Jvm.Cond.instanceMethod ({ cls := "PortTranslator$FlowTable", name := "findByInner", desc := "(LPortTranslator$Subject;)LPortTranslator$Flow;" } : Jvm.MethodName)) ∈ zz_TB := zz_t (zz_2 (List.mem_of_getElem? (i := 52) rfl)) rfl
theorem zw_293 : (Jvm.Cond.selects "PortTranslator$FlowTable" ({ cls := "PortTranslator$FlowTable", name := "findByInner", desc := "(LPortTranslator$Subject;)LPortTranslator$Flow;" } : Jvm.MethodName) ({ cls := "PortTranslator$FlowTable", name := "findByInner", desc := "(LPortTranslator$Subject;)LPortTranslator$Flow;" } : Jvm.MethodName)) ∈ zz_TB := zz_t (zz_2 (List.mem_of_getElem? (i := 53) rfl)) rfl
theorem zw_294 : (Jvm.Cond.code ({ cls := "PortTranslator$FlowTable", name := "findByInner", desc := "(LPortTranslator$Subject;)LPortTranslator$Flow;" } : Jvm.MethodName) prog_3_method_2_code (4 : Nat) (Option.some (Jvm.ClassFile.FieldType.object "PortTranslator$Flow"))) ∈ zz_TB := zz_t (zz_2 (List.mem_of_getElem? (i := 54) rfl)) rfl
theorem zw_295 : (Jvm.Cond.methodLink "PortTranslator$FlowTable" (22 : Nat) ({ cls := "PortTranslator$Flow", name := "hasInner", desc := "(LPortTranslator$Subject;)Z" } : Jvm.MethodName)) ∈ zz_TB := zz_t (zz_2 (List.mem_of_getElem? (i := 55) rfl)) rfl
theorem zw_296 : (Jvm.Cond.instanceMethod ({ cls := "PortTranslator$Flow", name := "hasInner", desc := "(LPortTranslator$Subject;)Z" } : Jvm.MethodName)) ∈ zz_TB := zz_t (zz_2 (List.mem_of_getElem? (i := 56) rfl)) rfl
theorem zw_297 : (Jvm.Cond.selects "PortTranslator$Flow" ({ cls := "PortTranslator$Flow", name := "hasInner", desc := "(LPortTranslator$Subject;)Z" } : Jvm.MethodName) ({ cls := "PortTranslator$Flow", name := "hasInner", desc := "(LPortTranslator$Subject;)Z" } : Jvm.MethodName)) ∈ zz_TB := zz_t (zz_2 (List.mem_of_getElem? (i := 57) rfl)) rfl
theorem zw_298 : (Jvm.Cond.code ({ cls := "PortTranslator$Flow", name := "hasInner", desc := "(LPortTranslator$Subject;)Z" } : Jvm.MethodName) prog_2_method_3_code (2 : Nat) (Option.some Jvm.ClassFile.FieldType.boolean)) ∈ zz_TB := zz_t (zz_2 (List.mem_of_getElem? (i := 58) rfl)) rfl
theorem zw_299 : (Jvm.Cond.methodLink "PortTranslator$FlowTable" (26 : Nat) ({ cls := "PortTranslator$Flow", name := "hasOuter", desc := "(LPortTranslator$Subject;)Z" } : Jvm.MethodName)) ∈ zz_TB := zz_t (zz_2 (List.mem_of_getElem? (i := 59) rfl)) rfl
theorem zw_300 : (Jvm.Cond.instanceMethod ({ cls := "PortTranslator$Flow", name := "hasOuter", desc := "(LPortTranslator$Subject;)Z" } : Jvm.MethodName)) ∈ zz_TB := zz_t (zz_2 (List.mem_of_getElem? (i := 60) rfl)) rfl
theorem zw_301 : (Jvm.Cond.selects "PortTranslator$Flow" ({ cls := "PortTranslator$Flow", name := "hasOuter", desc := "(LPortTranslator$Subject;)Z" } : Jvm.MethodName) ({ cls := "PortTranslator$Flow", name := "hasOuter", desc := "(LPortTranslator$Subject;)Z" } : Jvm.MethodName)) ∈ zz_TB := zz_t (zz_2 (List.mem_of_getElem? (i := 61) rfl)) rfl
theorem zw_302 : (Jvm.Cond.code ({ cls := "PortTranslator$Flow", name := "hasOuter", desc := "(LPortTranslator$Subject;)Z" } : Jvm.MethodName) prog_2_method_4_code (2 : Nat) (Option.some Jvm.ClassFile.FieldType.boolean)) ∈ zz_TB := zz_t (zz_2 (List.mem_of_getElem? (i := 62) rfl)) rfl
theorem zw_303 : (Jvm.Cond.methodLink "PortTranslator" (150 : Nat) ({ cls := "PortTranslator$Packet", name := "isError", desc := "()Z" } : Jvm.MethodName)) ∈ zz_TB := zz_t (zz_2 (List.mem_of_getElem? (i := 63) rfl)) rfl
theorem zw_304 : (Jvm.Cond.methodLink "PortTranslator" (156 : Nat) ({ cls := "PortTranslator", name := "mayBeginFlow", desc := "()Z" } : Jvm.MethodName)) ∈ zz_TB := zz_t (zz_2 (List.mem_of_getElem? (i := 64) rfl)) rfl
theorem zw_306 : (Jvm.Cond.instanceMethod ({ cls := "PortTranslator", name := "mayBeginFlow", desc := "()Z" } : Jvm.MethodName)) ∈ zz_TB := zz_t (zz_2 (List.mem_of_getElem? (i := 66) rfl)) rfl
theorem zw_307 : (Jvm.Cond.code ({ cls := "PortTranslator", name := "mayBeginFlow", desc := "()Z" } : Jvm.MethodName) prog_1_method_20_code (1 : Nat) (Option.some Jvm.ClassFile.FieldType.boolean)) ∈ zz_TB := zz_t (zz_2 (List.mem_of_getElem? (i := 67) rfl)) rfl
theorem zw_308 : (Jvm.Cond.methodLink "PortTranslator" (196 : Nat) ({ cls := "PortTranslator$Packet", name := "isEchoReply", desc := "()Z" } : Jvm.MethodName)) ∈ zz_TB := zz_t (zz_2 (List.mem_of_getElem? (i := 68) rfl)) rfl
theorem zw_309 : (Jvm.Cond.methodLink "PortTranslator" (202 : Nat) ({ cls := "PortTranslator$Packet", name := "flags", desc := "()I" } : Jvm.MethodName)) ∈ zz_TB := zz_t (zz_2 (List.mem_of_getElem? (i := 69) rfl)) rfl
theorem zw_310 : (Jvm.Cond.instanceMethod ({ cls := "PortTranslator$Packet", name := "flags", desc := "()I" } : Jvm.MethodName)) ∈ zz_TB := zz_t (zz_2 (List.mem_of_getElem? (i := 70) rfl)) rfl
theorem zw_311 : (Jvm.Cond.selects "PortTranslator$Packet" ({ cls := "PortTranslator$Packet", name := "flags", desc := "()I" } : Jvm.MethodName) ({ cls := "PortTranslator$Packet", name := "flags", desc := "()I" } : Jvm.MethodName)) ∈ zz_TB := zz_t (zz_2 (List.mem_of_getElem? (i := 71) rfl)) rfl
theorem zw_312 : (Jvm.Cond.code ({ cls := "PortTranslator$Packet", name := "flags", desc := "()I" } : Jvm.MethodName) prog_4_method_11_code (1 : Nat) (Option.some Jvm.ClassFile.FieldType.int)) ∈ zz_TB := zz_t (zz_2 (List.mem_of_getElem? (i := 72) rfl)) rfl
theorem zw_313 : (Jvm.Cond.methodLink "PortTranslator" (208 : Nat) ({ cls := "PortTranslator$RuleList", name := "permit", desc := "(II)Z" } : Jvm.MethodName)) ∈ zz_TB := zz_t (zz_2 (List.mem_of_getElem? (i := 73) rfl)) rfl
theorem zw_314 : (Jvm.Cond.instanceMethod ({ cls := "PortTranslator$RuleList", name := "permit", desc := "(II)Z" } : Jvm.MethodName)) ∈ zz_TB := zz_t (zz_2 (List.mem_of_getElem? (i := 74) rfl)) rfl
theorem zw_315 : (Jvm.Cond.selects "PortTranslator$RuleList" ({ cls := "PortTranslator$RuleList", name := "permit", desc := "(II)Z" } : Jvm.MethodName) ({ cls := "PortTranslator$RuleList", name := "permit", desc := "(II)Z" } : Jvm.MethodName)) ∈ zz_TB := zz_t (zz_2 (List.mem_of_getElem? (i := 75) rfl)) rfl
theorem zw_316 : (Jvm.Cond.code ({ cls := "PortTranslator$RuleList", name := "permit", desc := "(II)Z" } : Jvm.MethodName) prog_6_method_4_code (4 : Nat) (Option.some Jvm.ClassFile.FieldType.boolean)) ∈ zz_TB := zz_t (zz_2 (List.mem_of_getElem? (i := 76) rfl)) rfl
theorem zw_317 : (Jvm.Cond.methodLink "PortTranslator$RuleList" (20 : Nat) ({ cls := "PortTranslator$Rule", name := "speaksOf", desc := "(II)Z" } : Jvm.MethodName)) ∈ zz_TB := zz_t (zz_2 (List.mem_of_getElem? (i := 77) rfl)) rfl
theorem zw_318 : (Jvm.Cond.instanceMethod ({ cls := "PortTranslator$Rule", name := "speaksOf", desc := "(II)Z" } : Jvm.MethodName)) ∈ zz_TB := zz_t (zz_2 (List.mem_of_getElem? (i := 78) rfl)) rfl
theorem zw_319 : (Jvm.Cond.selects "PortTranslator$Rule" ({ cls := "PortTranslator$Rule", name := "speaksOf", desc := "(II)Z" } : Jvm.MethodName) ({ cls := "PortTranslator$Rule", name := "speaksOf", desc := "(II)Z" } : Jvm.MethodName)) ∈ zz_TB := zz_t (zz_2 (List.mem_of_getElem? (i := 79) rfl)) rfl
theorem zw_320 : (Jvm.Cond.code ({ cls := "PortTranslator$Rule", name := "speaksOf", desc := "(II)Z" } : Jvm.MethodName) prog_5_method_3_code (3 : Nat) (Option.some Jvm.ClassFile.FieldType.boolean)) ∈ zz_TB := zz_t (zz_2 (List.mem_of_getElem? (i := 80) rfl)) rfl
theorem zw_321 : (Jvm.Cond.methodLink "PortTranslator$Rule" (26 : Nat) ({ cls := "PortTranslator$Rule", name := "holds", desc := "(I)Z" } : Jvm.MethodName)) ∈ zz_TB := zz_t (zz_2 (List.mem_of_getElem? (i := 81) rfl)) rfl
theorem zw_323 : (Jvm.Cond.instanceMethod ({ cls := "PortTranslator$Rule", name := "holds", desc := "(I)Z" } : Jvm.MethodName)) ∈ zz_TB := zz_t (zz_2 (List.mem_of_getElem? (i := 83) rfl)) rfl
theorem zw_324 : (Jvm.Cond.code ({ cls := "PortTranslator$Rule", name := "holds", desc := "(I)Z" } : Jvm.MethodName) prog_5_method_4_code (2 : Nat) (Option.some Jvm.ClassFile.FieldType.boolean)) ∈ zz_TB := zz_t (zz_2 (List.mem_of_getElem? (i := 84) rfl)) rfl
theorem zw_325 : (Jvm.Cond.methodLink "PortTranslator" (159 : Nat) ({ cls := "PortTranslator$FlowTable", name := "begin", desc := "(LPortTranslator$Subject;)LPortTranslator$Flow;" } : Jvm.MethodName)) ∈ zz_TB := zz_t (zz_2 (List.mem_of_getElem? (i := 85) rfl)) rfl
theorem zw_326 : (Jvm.Cond.instanceMethod ({ cls := "PortTranslator$FlowTable", name := "begin", desc := "(LPortTranslator$Subject;)LPortTranslator$Flow;" } : Jvm.MethodName)) ∈ zz_TB := zz_t (zz_2 (List.mem_of_getElem? (i := 86) rfl)) rfl
theorem zw_327 : (Jvm.Cond.selects "PortTranslator$FlowTable" ({ cls := "PortTranslator$FlowTable", name := "begin", desc := "(LPortTranslator$Subject;)LPortTranslator$Flow;" } : Jvm.MethodName) ({ cls := "PortTranslator$FlowTable", name := "begin", desc := "(LPortTranslator$Subject;)LPortTranslator$Flow;" } : Jvm.MethodName)) ∈ zz_TB := zz_t (zz_2 (List.mem_of_getElem? (i := 87) rfl)) rfl
theorem zw_328 : (Jvm.Cond.code ({ cls := "PortTranslator$FlowTable", name := "begin", desc := "(LPortTranslator$Subject;)LPortTranslator$Flow;" } : Jvm.MethodName) prog_3_method_4_code (4 : Nat) (Option.some (Jvm.ClassFile.FieldType.object "PortTranslator$Flow"))) ∈ zz_TB := zz_t (zz_2 (List.mem_of_getElem? (i := 88) rfl)) rfl
theorem zw_329 : (Jvm.Cond.methodLink "PortTranslator$FlowTable" (41 : Nat) ({ cls := "PortTranslator$FlowTable", name := "binding", desc := "(LPortTranslator$Subject;)I" } : Jvm.MethodName)) ∈ zz_TB := zz_t (zz_2 (List.mem_of_getElem? (i := 89) rfl)) rfl
theorem zw_331 : (Jvm.Cond.instanceMethod ({ cls := "PortTranslator$FlowTable", name := "binding", desc := "(LPortTranslator$Subject;)I" } : Jvm.MethodName)) ∈ zz_TB := zz_t (zz_2 (List.mem_of_getElem? (i := 91) rfl)) rfl
theorem zw_332 : (Jvm.Cond.code ({ cls := "PortTranslator$FlowTable", name := "binding", desc := "(LPortTranslator$Subject;)I" } : Jvm.MethodName) prog_3_method_5_code (3 : Nat) (Option.some Jvm.ClassFile.FieldType.int)) ∈ zz_TB := zz_t (zz_2 (List.mem_of_getElem? (i := 92) rfl)) rfl
theorem zw_333 : (Jvm.Cond.methodLink "PortTranslator$FlowTable" (45 : Nat) ({ cls := "PortTranslator$FlowTable", name := "leastFreePort", desc := "(I)I" } : Jvm.MethodName)) ∈ zz_TB := zz_t (zz_2 (List.mem_of_getElem? (i := 93) rfl)) rfl
theorem zw_335 : (Jvm.Cond.instanceMethod ({ cls := "PortTranslator$FlowTable", name := "leastFreePort", desc := "(I)I" } : Jvm.MethodName)) ∈ zz_TB := zz_t (zz_2 (List.mem_of_getElem? (i := 95) rfl)) rfl
theorem zw_336 : (Jvm.Cond.code ({ cls := "PortTranslator$FlowTable", name := "leastFreePort", desc := "(I)I" } : Jvm.MethodName) prog_3_method_6_code (3 : Nat) (Option.some Jvm.ClassFile.FieldType.int)) ∈ zz_TB := zz_t (zz_2 (List.mem_of_getElem? (i := 96) rfl)) rfl
theorem zw_337 : (Jvm.Cond.constant "PortTranslator$FlowTable" (56 : Nat) (40000 : Int32)) ∈ zz_TB := zz_t (zz_2 (List.mem_of_getElem? (i := 97) rfl)) rfl
theorem zw_338 : (Jvm.Cond.constant "PortTranslator$FlowTable" (57 : Nat) (40005 : Int32)) ∈ zz_TB := zz_t (zz_2 (List.mem_of_getElem? (i := 98) rfl)) rfl
theorem zw_339 : (Jvm.Cond.methodLink "PortTranslator$FlowTable" (58 : Nat) ({ cls := "PortTranslator$FlowTable", name := "isTaken", desc := "(II)Z" } : Jvm.MethodName)) ∈ zz_TB := zz_t (zz_2 (List.mem_of_getElem? (i := 99) rfl)) rfl
theorem zw_341 : (Jvm.Cond.instanceMethod ({ cls := "PortTranslator$FlowTable", name := "isTaken", desc := "(II)Z" } : Jvm.MethodName)) ∈ zz_TB := zz_t (zz_2 (List.mem_of_getElem? (i := 101) rfl)) rfl
theorem zw_342 : (Jvm.Cond.code ({ cls := "PortTranslator$FlowTable", name := "isTaken", desc := "(II)Z" } : Jvm.MethodName) prog_3_method_7_code (4 : Nat) (Option.some Jvm.ClassFile.FieldType.boolean)) ∈ zz_TB := zz_t (zz_2 (List.mem_of_getElem? (i := 102) rfl)) rfl
theorem zw_343 : (Jvm.Cond.methodLink "PortTranslator$FlowTable" (37 : Nat) ({ cls := "PortTranslator$Flow", name := "hasOwn", desc := "(II)Z" } : Jvm.MethodName)) ∈ zz_TB := zz_t (zz_2 (List.mem_of_getElem? (i := 103) rfl)) rfl
theorem zw_344 : (Jvm.Cond.instanceMethod ({ cls := "PortTranslator$Flow", name := "hasOwn", desc := "(II)Z" } : Jvm.MethodName)) ∈ zz_TB := zz_t (zz_2 (List.mem_of_getElem? (i := 104) rfl)) rfl
theorem zw_345 : (Jvm.Cond.selects "PortTranslator$Flow" ({ cls := "PortTranslator$Flow", name := "hasOwn", desc := "(II)Z" } : Jvm.MethodName) ({ cls := "PortTranslator$Flow", name := "hasOwn", desc := "(II)Z" } : Jvm.MethodName)) ∈ zz_TB := zz_t (zz_2 (List.mem_of_getElem? (i := 105) rfl)) rfl
theorem zw_346 : (Jvm.Cond.code ({ cls := "PortTranslator$Flow", name := "hasOwn", desc := "(II)Z" } : Jvm.MethodName) prog_2_method_5_code (3 : Nat) (Option.some Jvm.ClassFile.FieldType.boolean)) ∈ zz_TB := zz_t (zz_2 (List.mem_of_getElem? (i := 106) rfl)) rfl
theorem zw_347 : (Jvm.Cond.methodLink "PortTranslator$FlowTable" (49 : Nat) ({ cls := "PortTranslator$Flow", name := "start", desc := "(LPortTranslator$Subject;I)V" } : Jvm.MethodName)) ∈ zz_TB := zz_t (zz_2 (List.mem_of_getElem? (i := 107) rfl)) rfl
theorem zw_348 : (Jvm.Cond.instanceMethod ({ cls := "PortTranslator$Flow", name := "start", desc := "(LPortTranslator$Subject;I)V" } : Jvm.MethodName)) ∈ zz_TB := zz_t (zz_2 (List.mem_of_getElem? (i := 108) rfl)) rfl
theorem zw_349 : (Jvm.Cond.selects "PortTranslator$Flow" ({ cls := "PortTranslator$Flow", name := "start", desc := "(LPortTranslator$Subject;I)V" } : Jvm.MethodName) ({ cls := "PortTranslator$Flow", name := "start", desc := "(LPortTranslator$Subject;I)V" } : Jvm.MethodName)) ∈ zz_TB := zz_t (zz_2 (List.mem_of_getElem? (i := 109) rfl)) rfl
theorem zw_350 : (Jvm.Cond.code ({ cls := "PortTranslator$Flow", name := "start", desc := "(LPortTranslator$Subject;I)V" } : Jvm.MethodName) prog_2_method_2_code (3 : Nat) (Option.none : Option Jvm.ClassFile.FieldType)) ∈ zz_TB := zz_t (zz_2 (List.mem_of_getElem? (i := 110) rfl)) rfl
theorem zw_351 : (Jvm.Cond.methodLink "PortTranslator" (165 : Nat) ({ cls := "PortTranslator", name := "translate", desc := "(III)V" } : Jvm.MethodName)) ∈ zz_TB := zz_t (zz_2 (List.mem_of_getElem? (i := 111) rfl)) rfl
theorem zw_353 : (Jvm.Cond.instanceMethod ({ cls := "PortTranslator", name := "translate", desc := "(III)V" } : Jvm.MethodName)) ∈ zz_TB := zz_t (zz_2 (List.mem_of_getElem? (i := 113) rfl)) rfl
theorem zw_354 : (Jvm.Cond.code ({ cls := "PortTranslator", name := "translate", desc := "(III)V" } : Jvm.MethodName) prog_1_method_19_code (4 : Nat) (Option.none : Option Jvm.ClassFile.FieldType)) ∈ zz_TB := zz_t (zz_2 (List.mem_of_getElem? (i := 114) rfl)) rfl
theorem zw_355 : (Jvm.Cond.methodLink "PortTranslator" (185 : Nat) ({ cls := "PortTranslator$Packet", name := "lowerTime", desc := "()V" } : Jvm.MethodName)) ∈ zz_TB := zz_t (zz_2 (List.mem_of_getElem? (i := 115) rfl)) rfl
theorem zw_356 : (Jvm.Cond.instanceMethod ({ cls := "PortTranslator$Packet", name := "lowerTime", desc := "()V" } : Jvm.MethodName)) ∈ zz_TB := zz_t (zz_2 (List.mem_of_getElem? (i := 116) rfl)) rfl
theorem zw_357 : (Jvm.Cond.selects "PortTranslator$Packet" ({ cls := "PortTranslator$Packet", name := "lowerTime", desc := "()V" } : Jvm.MethodName) ({ cls := "PortTranslator$Packet", name := "lowerTime", desc := "()V" } : Jvm.MethodName)) ∈ zz_TB := zz_t (zz_2 (List.mem_of_getElem? (i := 117) rfl)) rfl
theorem zw_358 : (Jvm.Cond.code ({ cls := "PortTranslator$Packet", name := "lowerTime", desc := "()V" } : Jvm.MethodName) prog_4_method_10_code (1 : Nat) (Option.none : Option Jvm.ClassFile.FieldType)) ∈ zz_TB := zz_t (zz_2 (List.mem_of_getElem? (i := 118) rfl)) rfl
theorem zw_359 : (Jvm.Cond.methodLink "PortTranslator" (188 : Nat) ({ cls := "PortTranslator$Packet", name := "setAddress", desc := "(II)V" } : Jvm.MethodName)) ∈ zz_TB := zz_t (zz_2 (List.mem_of_getElem? (i := 119) rfl)) rfl
theorem zw_360 : (Jvm.Cond.instanceMethod ({ cls := "PortTranslator$Packet", name := "setAddress", desc := "(II)V" } : Jvm.MethodName)) ∈ zz_TB := zz_t (zz_2 (List.mem_of_getElem? (i := 120) rfl)) rfl
theorem zw_361 : (Jvm.Cond.selects "PortTranslator$Packet" ({ cls := "PortTranslator$Packet", name := "setAddress", desc := "(II)V" } : Jvm.MethodName) ({ cls := "PortTranslator$Packet", name := "setAddress", desc := "(II)V" } : Jvm.MethodName)) ∈ zz_TB := zz_t (zz_2 (List.mem_of_getElem? (i := 121) rfl)) rfl
theorem zw_362 : (Jvm.Cond.code ({ cls := "PortTranslator$Packet", name := "setAddress", desc := "(II)V" } : Jvm.MethodName) prog_4_method_16_code (3 : Nat) (Option.none : Option Jvm.ClassFile.FieldType)) ∈ zz_TB := zz_t (zz_2 (List.mem_of_getElem? (i := 122) rfl)) rfl
theorem zw_363 : (Jvm.Cond.methodLink "PortTranslator" (192 : Nat) ({ cls := "PortTranslator$Subject", name := "write", desc := "(LPortTranslator$Packet;II)V" } : Jvm.MethodName)) ∈ zz_TB := zz_t (zz_2 (List.mem_of_getElem? (i := 123) rfl)) rfl
theorem zw_364 : (Jvm.Cond.instanceMethod ({ cls := "PortTranslator$Subject", name := "write", desc := "(LPortTranslator$Packet;II)V" } : Jvm.MethodName)) ∈ zz_TB := zz_t (zz_2 (List.mem_of_getElem? (i := 124) rfl)) rfl
theorem zw_365 : (Jvm.Cond.selects "PortTranslator$Subject" ({ cls := "PortTranslator$Subject", name := "write", desc := "(LPortTranslator$Packet;II)V" } : Jvm.MethodName) ({ cls := "PortTranslator$Subject", name := "write", desc := "(LPortTranslator$Packet;II)V" } : Jvm.MethodName)) ∈ zz_TB := zz_t (zz_2 (List.mem_of_getElem? (i := 125) rfl)) rfl
theorem zw_366 : (Jvm.Cond.code ({ cls := "PortTranslator$Subject", name := "write", desc := "(LPortTranslator$Packet;II)V" } : Jvm.MethodName) prog_7_method_3_code (5 : Nat) (Option.none : Option Jvm.ClassFile.FieldType)) ∈ zz_TB := zz_t (zz_2 (List.mem_of_getElem? (i := 126) rfl)) rfl
theorem zw_367 : (Jvm.Cond.methodLink "PortTranslator$Subject" (50 : Nat) ({ cls := "PortTranslator$Subject", name := "change", desc := "(II)I" } : Jvm.MethodName)) ∈ zz_TB := zz_t (zz_2 (List.mem_of_getElem? (i := 127) rfl)) rfl
theorem zw_368 : (Jvm.Cond.static ({ cls := "PortTranslator$Subject", name := "change", desc := "(II)I" } : Jvm.MethodName)) ∈ zz_TB := zz_t (zz_2 (List.mem_of_getElem? (i := 128) rfl)) rfl
theorem zw_369 : (Jvm.Cond.code ({ cls := "PortTranslator$Subject", name := "change", desc := "(II)I" } : Jvm.MethodName) prog_7_method_4_code (2 : Nat) (Option.some Jvm.ClassFile.FieldType.int)) ∈ zz_TB := zz_t (zz_2 (List.mem_of_getElem? (i := 129) rfl)) rfl
theorem zw_370 : (Jvm.Cond.constant "PortTranslator$Subject" (54 : Nat) (65535 : Int32)) ∈ zz_TB := zz_t (zz_2 (List.mem_of_getElem? (i := 130) rfl)) rfl
theorem zw_371 : (Jvm.Cond.methodLink "PortTranslator$Subject" (55 : Nat) ({ cls := "PortTranslator$Packet", name := "adjustOther", desc := "(II)V" } : Jvm.MethodName)) ∈ zz_TB := zz_t (zz_2 (List.mem_of_getElem? (i := 131) rfl)) rfl
theorem zw_372 : (Jvm.Cond.instanceMethod ({ cls := "PortTranslator$Packet", name := "adjustOther", desc := "(II)V" } : Jvm.MethodName)) ∈ zz_TB := zz_t (zz_2 (List.mem_of_getElem? (i := 132) rfl)) rfl
theorem zw_373 : (Jvm.Cond.selects "PortTranslator$Packet" ({ cls := "PortTranslator$Packet", name := "adjustOther", desc := "(II)V" } : Jvm.MethodName) ({ cls := "PortTranslator$Packet", name := "adjustOther", desc := "(II)V" } : Jvm.MethodName)) ∈ zz_TB := zz_t (zz_2 (List.mem_of_getElem? (i := 133) rfl)) rfl
theorem zw_374 : (Jvm.Cond.code ({ cls := "PortTranslator$Packet", name := "adjustOther", desc := "(II)V" } : Jvm.MethodName) prog_4_method_17_code (4 : Nat) (Option.none : Option Jvm.ClassFile.FieldType)) ∈ zz_TB := zz_t (zz_2 (List.mem_of_getElem? (i := 134) rfl)) rfl
theorem zw_375 : (Jvm.Cond.methodLink "PortTranslator$Packet" (58 : Nat) ({ cls := "PortTranslator$Packet", name := "adjust", desc := "(II)V" } : Jvm.MethodName)) ∈ zz_TB := zz_t (zz_2 (List.mem_of_getElem? (i := 135) rfl)) rfl
theorem zw_377 : (Jvm.Cond.instanceMethod ({ cls := "PortTranslator$Packet", name := "adjust", desc := "(II)V" } : Jvm.MethodName)) ∈ zz_TB := zz_t (zz_2 (List.mem_of_getElem? (i := 137) rfl)) rfl
theorem zw_378 : (Jvm.Cond.code ({ cls := "PortTranslator$Packet", name := "adjust", desc := "(II)V" } : Jvm.MethodName) prog_4_method_18_code (3 : Nat) (Option.none : Option Jvm.ClassFile.FieldType)) ∈ zz_TB := zz_t (zz_2 (List.mem_of_getElem? (i := 138) rfl)) rfl
theorem zw_379 : (Jvm.Cond.methodLink "PortTranslator$Subject" (59 : Nat) ({ cls := "PortTranslator$Packet", name := "setAddress", desc := "(II)V" } : Jvm.MethodName)) ∈ zz_TB := zz_t (zz_2 (List.mem_of_getElem? (i := 139) rfl)) rfl
theorem zw_380 : (Jvm.Cond.methodLink "PortTranslator" (169 : Nat) ({ cls := "PortTranslator", name := "note", desc := "(LPortTranslator$Flow;Z)V" } : Jvm.MethodName)) ∈ zz_TB := zz_t (zz_2 (List.mem_of_getElem? (i := 140) rfl)) rfl
theorem zw_382 : (Jvm.Cond.instanceMethod ({ cls := "PortTranslator", name := "note", desc := "(LPortTranslator$Flow;Z)V" } : Jvm.MethodName)) ∈ zz_TB := zz_t (zz_2 (List.mem_of_getElem? (i := 142) rfl)) rfl
theorem zw_383 : (Jvm.Cond.code ({ cls := "PortTranslator", name := "note", desc := "(LPortTranslator$Flow;Z)V" } : Jvm.MethodName) prog_1_method_21_code (3 : Nat) (Option.none : Option Jvm.ClassFile.FieldType)) ∈ zz_TB := zz_t (zz_2 (List.mem_of_getElem? (i := 143) rfl)) rfl
theorem zw_384 : (Jvm.Cond.methodLink "PortTranslator" (215 : Nat) ({ cls := "PortTranslator$Flow", name := "noteFlags", desc := "(IZ)V" } : Jvm.MethodName)) ∈ zz_TB := zz_t (zz_2 (List.mem_of_getElem? (i := 144) rfl)) rfl
theorem zw_385 : (Jvm.Cond.instanceMethod ({ cls := "PortTranslator$Flow", name := "noteFlags", desc := "(IZ)V" } : Jvm.MethodName)) ∈ zz_TB := zz_t (zz_2 (List.mem_of_getElem? (i := 145) rfl)) rfl
theorem zw_386 : (Jvm.Cond.selects "PortTranslator$Flow" ({ cls := "PortTranslator$Flow", name := "noteFlags", desc := "(IZ)V" } : Jvm.MethodName) ({ cls := "PortTranslator$Flow", name := "noteFlags", desc := "(IZ)V" } : Jvm.MethodName)) ∈ zz_TB := zz_t (zz_2 (List.mem_of_getElem? (i := 146) rfl)) rfl
theorem zw_387 : (Jvm.Cond.code ({ cls := "PortTranslator$Flow", name := "noteFlags", desc := "(IZ)V" } : Jvm.MethodName) prog_2_method_6_code (3 : Nat) (Option.none : Option Jvm.ClassFile.FieldType)) ∈ zz_TB := zz_t (zz_2 (List.mem_of_getElem? (i := 147) rfl)) rfl
theorem zw_388 : (Jvm.Cond.methodLink "PortTranslator" (219 : Nat) ({ cls := "PortTranslator$FlowTable", name := "end", desc := "(LPortTranslator$Flow;)V" } : Jvm.MethodName)) ∈ zz_TB := zz_t (zz_2 (List.mem_of_getElem? (i := 148) rfl)) rfl
theorem zw_389 : (Jvm.Cond.instanceMethod ({ cls := "PortTranslator$FlowTable", name := "end", desc := "(LPortTranslator$Flow;)V" } : Jvm.MethodName)) ∈ zz_TB := zz_t (zz_2 (List.mem_of_getElem? (i := 149) rfl)) rfl
theorem zw_390 : (Jvm.Cond.selects "PortTranslator$FlowTable" ({ cls := "PortTranslator$FlowTable", name := "end", desc := "(LPortTranslator$Flow;)V" } : Jvm.MethodName) ({ cls := "PortTranslator$FlowTable", name := "end", desc := "(LPortTranslator$Flow;)V" } : Jvm.MethodName)) ∈ zz_TB := zz_t (zz_2 (List.mem_of_getElem? (i := 150) rfl)) rfl
theorem zw_391 : (Jvm.Cond.code ({ cls := "PortTranslator$FlowTable", name := "end", desc := "(LPortTranslator$Flow;)V" } : Jvm.MethodName) prog_3_method_10_code (3 : Nat) (Option.none : Option Jvm.ClassFile.FieldType)) ∈ zz_TB := zz_t (zz_2 (List.mem_of_getElem? (i := 151) rfl)) rfl
theorem zw_392 : (Jvm.Cond.methodLink "PortTranslator$FlowTable" (68 : Nat) ({ cls := "PortTranslator$FlowTable", name := "endAt", desc := "(I)V" } : Jvm.MethodName)) ∈ zz_TB := zz_t (zz_2 (List.mem_of_getElem? (i := 152) rfl)) rfl
theorem zw_394 : (Jvm.Cond.instanceMethod ({ cls := "PortTranslator$FlowTable", name := "endAt", desc := "(I)V" } : Jvm.MethodName)) ∈ zz_TB := zz_t (zz_2 (List.mem_of_getElem? (i := 154) rfl)) rfl
theorem zw_395 : (Jvm.Cond.code ({ cls := "PortTranslator$FlowTable", name := "endAt", desc := "(I)V" } : Jvm.MethodName) prog_3_method_11_code (4 : Nat) (Option.none : Option Jvm.ClassFile.FieldType)) ∈ zz_TB := zz_t (zz_2 (List.mem_of_getElem? (i := 155) rfl)) rfl
theorem zw_396 : (Jvm.Cond.methodLink "PortTranslator" (63 : Nat) ({ cls := "PortTranslator", name := "letIn", desc := "()I" } : Jvm.MethodName)) ∈ zz_TB := zz_t (zz_2 (List.mem_of_getElem? (i := 156) rfl)) rfl
theorem zw_398 : (Jvm.Cond.instanceMethod ({ cls := "PortTranslator", name := "letIn", desc := "()I" } : Jvm.MethodName)) ∈ zz_TB := zz_t (zz_2 (List.mem_of_getElem? (i := 158) rfl)) rfl
theorem zw_399 : (Jvm.Cond.code ({ cls := "PortTranslator", name := "letIn", desc := "()I" } : Jvm.MethodName) prog_1_method_18_code (2 : Nat) (Option.some Jvm.ClassFile.FieldType.int)) ∈ zz_TB := zz_t (zz_2 (List.mem_of_getElem? (i := 159) rfl)) rfl
theorem zw_400 : (Jvm.Cond.methodLink "PortTranslator" (176 : Nat) ({ cls := "PortTranslator$Packet", name := "isEchoRequest", desc := "()Z" } : Jvm.MethodName)) ∈ zz_TB := zz_t (zz_2 (List.mem_of_getElem? (i := 160) rfl)) rfl
theorem zw_401 : (Jvm.Cond.methodLink "PortTranslator" (179 : Nat) ({ cls := "PortTranslator$FlowTable", name := "findByOwn", desc := "(LPortTranslator$Subject;)LPortTranslator$Flow;" } : Jvm.MethodName)) ∈ zz_TB := zz_t (zz_2 (List.mem_of_getElem? (i := 161) rfl)) rfl
theorem zw_402 : (Jvm.Cond.instanceMethod ({ cls := "PortTranslator$FlowTable", name := "findByOwn", desc := "(LPortTranslator$Subject;)LPortTranslator$Flow;" } : Jvm.MethodName)) ∈ zz_TB := zz_t (zz_2 (List.mem_of_getElem? (i := 162) rfl)) rfl
theorem zw_403 : (Jvm.Cond.selects "PortTranslator$FlowTable" ({ cls := "PortTranslator$FlowTable", name := "findByOwn", desc := "(LPortTranslator$Subject;)LPortTranslator$Flow;" } : Jvm.MethodName) ({ cls := "PortTranslator$FlowTable", name := "findByOwn", desc := "(LPortTranslator$Subject;)LPortTranslator$Flow;" } : Jvm.MethodName)) ∈ zz_TB := zz_t (zz_2 (List.mem_of_getElem? (i := 163) rfl)) rfl
theorem zw_404 : (Jvm.Cond.code ({ cls := "PortTranslator$FlowTable", name := "findByOwn", desc := "(LPortTranslator$Subject;)LPortTranslator$Flow;" } : Jvm.MethodName) prog_3_method_3_code (4 : Nat) (Option.some (Jvm.ClassFile.FieldType.object "PortTranslator$Flow"))) ∈ zz_TB := zz_t (zz_2 (List.mem_of_getElem? (i := 164) rfl)) rfl
theorem zw_405 : (Jvm.Cond.methodLink "PortTranslator" (66 : Nat) ({ cls := "PortTranslator$Packet", name := "writeChecksums", desc := "()V" } : Jvm.MethodName)) ∈ zz_TB := zz_t (zz_2 (List.mem_of_getElem? (i := 165) rfl)) rfl
theorem zw_406 : (Jvm.Cond.instanceMethod ({ cls := "PortTranslator$Packet", name := "writeChecksums", desc := "()V" } : Jvm.MethodName)) ∈ zz_TB := zz_t (zz_2 (List.mem_of_getElem? (i := 166) rfl)) rfl
theorem zw_407 : (Jvm.Cond.selects "PortTranslator$Packet" ({ cls := "PortTranslator$Packet", name := "writeChecksums", desc := "()V" } : Jvm.MethodName) ({ cls := "PortTranslator$Packet", name := "writeChecksums", desc := "()V" } : Jvm.MethodName)) ∈ zz_TB := zz_t (zz_2 (List.mem_of_getElem? (i := 167) rfl)) rfl
theorem zw_408 : (Jvm.Cond.code ({ cls := "PortTranslator$Packet", name := "writeChecksums", desc := "()V" } : Jvm.MethodName) prog_4_method_19_code (2 : Nat) (Option.none : Option Jvm.ClassFile.FieldType)) ∈ zz_TB := zz_t (zz_2 (List.mem_of_getElem? (i := 168) rfl)) rfl
theorem zw_409 : (Jvm.Cond.methodLink "PortTranslator$Packet" (62 : Nat) ({ cls := "PortTranslator$Packet", name := "writeBodyChecksum", desc := "(I)V" } : Jvm.MethodName)) ∈ zz_TB := zz_t (zz_2 (List.mem_of_getElem? (i := 169) rfl)) rfl
theorem zw_411 : (Jvm.Cond.instanceMethod ({ cls := "PortTranslator$Packet", name := "writeBodyChecksum", desc := "(I)V" } : Jvm.MethodName)) ∈ zz_TB := zz_t (zz_2 (List.mem_of_getElem? (i := 171) rfl)) rfl
theorem zw_412 : (Jvm.Cond.code ({ cls := "PortTranslator$Packet", name := "writeBodyChecksum", desc := "(I)V" } : Jvm.MethodName) prog_4_method_20_code (2 : Nat) (Option.none : Option Jvm.ClassFile.FieldType)) ∈ zz_TB := zz_t (zz_2 (List.mem_of_getElem? (i := 172) rfl)) rfl
theorem zw_413 : (Jvm.Cond.methodLink "PortTranslator" (69 : Nat) ({ cls := "PortTranslator$Packet", name := "copyFrom", desc := "(LPortTranslator$Packet;)V" } : Jvm.MethodName)) ∈ zz_TB := zz_t (zz_2 (List.mem_of_getElem? (i := 173) rfl)) rfl
theorem zw_414 : (Jvm.Cond.instanceMethod ({ cls := "PortTranslator$Packet", name := "copyFrom", desc := "(LPortTranslator$Packet;)V" } : Jvm.MethodName)) ∈ zz_TB := zz_t (zz_2 (List.mem_of_getElem? (i := 174) rfl)) rfl
theorem zw_415 : (Jvm.Cond.selects "PortTranslator$Packet" ({ cls := "PortTranslator$Packet", name := "copyFrom", desc := "(LPortTranslator$Packet;)V" } : Jvm.MethodName) ({ cls := "PortTranslator$Packet", name := "copyFrom", desc := "(LPortTranslator$Packet;)V" } : Jvm.MethodName)) ∈ zz_TB := zz_t (zz_2 (List.mem_of_getElem? (i := 175) rfl)) rfl
theorem zw_416 : (Jvm.Cond.code ({ cls := "PortTranslator$Packet", name := "copyFrom", desc := "(LPortTranslator$Packet;)V" } : Jvm.MethodName) prog_4_method_5_code (2 : Nat) (Option.none : Option Jvm.ClassFile.FieldType)) ∈ zz_TB := zz_t (zz_2 (List.mem_of_getElem? (i := 176) rfl)) rfl
theorem zw_417 : (Jvm.Cond.methodLink "PortTranslator$Packet" (19 : Nat) ({ cls := "java/lang/System", name := "arraycopy", desc := "(Ljava/lang/Object;ILjava/lang/Object;II)V" } : Jvm.MethodName)) ∈ zz_TB := zz_t (zz_2 (List.mem_of_getElem? (i := 177) rfl)) rfl
theorem zw_418 : (Jvm.Cond.static ({ cls := "java/lang/System", name := "arraycopy", desc := "(Ljava/lang/Object;ILjava/lang/Object;II)V" } : Jvm.MethodName)) ∈ zz_TB := zz_t (zz_2 (List.mem_of_getElem? (i := 178) rfl)) rfl
theorem zw_419 : (Jvm.Cond.native ({ cls := "java/lang/System", name := "arraycopy", desc := "(Ljava/lang/Object;ILjava/lang/Object;II)V" } : Jvm.MethodName)) ∈ zz_TB := zz_t (zz_2 (List.mem_of_getElem? (i := 179) rfl)) rfl
theorem zw_420 : (Jvm.Cond.methodLink "PortTranslatorLaw" (51 : Nat) ({ cls := "PortTranslator", name := "length", desc := "()I" } : Jvm.MethodName)) ∈ zz_TB := zz_t (zz_2 (List.mem_of_getElem? (i := 180) rfl)) rfl
theorem zw_421 : (Jvm.Cond.instanceMethod ({ cls := "PortTranslator", name := "length", desc := "()I" } : Jvm.MethodName)) ∈ zz_TB := zz_t (zz_2 (List.mem_of_getElem? (i := 181) rfl)) rfl
theorem zw_422 : (Jvm.Cond.selects "PortTranslator" ({ cls := "PortTranslator", name := "length", desc := "()I" } : Jvm.MethodName) ({ cls := "PortTranslator", name := "length", desc := "()I" } : Jvm.MethodName)) ∈ zz_TB := zz_t (zz_2 (List.mem_of_getElem? (i := 182) rfl)) rfl
theorem zw_423 : (Jvm.Cond.code ({ cls := "PortTranslator", name := "length", desc := "()I" } : Jvm.MethodName) prog_1_method_5_code (1 : Nat) (Option.some Jvm.ClassFile.FieldType.int)) ∈ zz_TB := zz_t (zz_2 (List.mem_of_getElem? (i := 183) rfl)) rfl
theorem zw_424 : (Jvm.Cond.methodLink "PortTranslatorLaw" (75 : Nat) ({ cls := "PortTranslator", name := "flows", desc := "()I" } : Jvm.MethodName)) ∈ zz_TB := zz_t (zz_2 (List.mem_of_getElem? (i := 184) rfl)) rfl
theorem zw_425 : (Jvm.Cond.instanceMethod ({ cls := "PortTranslator", name := "flows", desc := "()I" } : Jvm.MethodName)) ∈ zz_TB := zz_t (zz_2 (List.mem_of_getElem? (i := 185) rfl)) rfl
theorem zw_426 : (Jvm.Cond.selects "PortTranslator" ({ cls := "PortTranslator", name := "flows", desc := "()I" } : Jvm.MethodName) ({ cls := "PortTranslator", name := "flows", desc := "()I" } : Jvm.MethodName)) ∈ zz_TB := zz_t (zz_2 (List.mem_of_getElem? (i := 186) rfl)) rfl
theorem zw_427 : (Jvm.Cond.code ({ cls := "PortTranslator", name := "flows", desc := "()I" } : Jvm.MethodName) prog_1_method_10_code (1 : Nat) (Option.some Jvm.ClassFile.FieldType.int)) ∈ zz_TB := zz_t (zz_2 (List.mem_of_getElem? (i := 187) rfl)) rfl
theorem zw_428 : (Jvm.Cond.methodLink "PortTranslatorLaw" (83 : Nat) ({ cls := "PortTranslator", name := "bindings", desc := "(I)I" } : Jvm.MethodName)) ∈ zz_TB := zz_t (zz_2 (List.mem_of_getElem? (i := 188) rfl)) rfl
theorem zw_429 : (Jvm.Cond.instanceMethod ({ cls := "PortTranslator", name := "bindings", desc := "(I)I" } : Jvm.MethodName)) ∈ zz_TB := zz_t (zz_2 (List.mem_of_getElem? (i := 189) rfl)) rfl
theorem zw_430 : (Jvm.Cond.selects "PortTranslator" ({ cls := "PortTranslator", name := "bindings", desc := "(I)I" } : Jvm.MethodName) ({ cls := "PortTranslator", name := "bindings", desc := "(I)I" } : Jvm.MethodName)) ∈ zz_TB := zz_t (zz_2 (List.mem_of_getElem? (i := 190) rfl)) rfl
theorem zw_431 : (Jvm.Cond.code ({ cls := "PortTranslator", name := "bindings", desc := "(I)I" } : Jvm.MethodName) prog_1_method_12_code (2 : Nat) (Option.some Jvm.ClassFile.FieldType.int)) ∈ zz_TB := zz_t (zz_2 (List.mem_of_getElem? (i := 191) rfl)) rfl
theorem zw_432 : (Jvm.Cond.methodLink "PortTranslator" (124 : Nat) ({ cls := "PortTranslator$FlowTable", name := "countOwnPorts", desc := "(I)I" } : Jvm.MethodName)) ∈ zz_TB := zz_t (zz_2 (List.mem_of_getElem? (i := 192) rfl)) rfl
theorem zw_433 : (Jvm.Cond.instanceMethod ({ cls := "PortTranslator$FlowTable", name := "countOwnPorts", desc := "(I)I" } : Jvm.MethodName)) ∈ zz_TB := zz_t (zz_2 (List.mem_of_getElem? (i := 193) rfl)) rfl
theorem zw_434 : (Jvm.Cond.selects "PortTranslator$FlowTable" ({ cls := "PortTranslator$FlowTable", name := "countOwnPorts", desc := "(I)I" } : Jvm.MethodName) ({ cls := "PortTranslator$FlowTable", name := "countOwnPorts", desc := "(I)I" } : Jvm.MethodName)) ∈ zz_TB := zz_t (zz_2 (List.mem_of_getElem? (i := 194) rfl)) rfl
theorem zw_435 : (Jvm.Cond.code ({ cls := "PortTranslator$FlowTable", name := "countOwnPorts", desc := "(I)I" } : Jvm.MethodName) prog_3_method_8_code (4 : Nat) (Option.some Jvm.ClassFile.FieldType.int)) ∈ zz_TB := zz_t (zz_2 (List.mem_of_getElem? (i := 195) rfl)) rfl
theorem zw_436 : (Jvm.Cond.methodLink "PortTranslatorLaw" (56 : Nat) ({ cls := "PortTranslatorLaw", name := "at", desc := "(LPortTranslator;I[J)I" } : Jvm.MethodName)) ∈ zz_TB := zz_t (zz_2 (List.mem_of_getElem? (i := 196) rfl)) rfl
theorem zw_437 : (Jvm.Cond.static ({ cls := "PortTranslatorLaw", name := "at", desc := "(LPortTranslator;I[J)I" } : Jvm.MethodName)) ∈ zz_TB := zz_t (zz_2 (List.mem_of_getElem? (i := 197) rfl)) rfl
theorem zw_438 : (Jvm.Cond.codeWith ({ cls := "PortTranslatorLaw", name := "at", desc := "(LPortTranslator;I[J)I" } : Jvm.MethodName) method_3_code (4 : Nat) (Option.some Jvm.ClassFile.FieldType.int) [((0 : Nat), (9 : Nat), (12 : Nat), (13 : Nat))]) ∈ zz_TB := zz_t (zz_2 (List.mem_of_getElem? (i := 198) rfl)) rfl
theorem zw_439 : (Jvm.Cond.classLink "PortTranslatorLaw" (13 : Nat) "java/lang/IndexOutOfBoundsException") ∈ zz_TB := zz_t (zz_2 (List.mem_of_getElem? (i := 199) rfl)) rfl
theorem zw_440 : (Jvm.Cond.methodLink "PortTranslatorLaw" (7 : Nat) ({ cls := "PortTranslator", name := "at", desc := "(I)I" } : Jvm.MethodName)) ∈ zz_TB := zz_t (zz_2 (List.mem_of_getElem? (i := 200) rfl)) rfl
theorem zw_441 : (Jvm.Cond.instanceMethod ({ cls := "PortTranslator", name := "at", desc := "(I)I" } : Jvm.MethodName)) ∈ zz_TB := zz_t (zz_2 (List.mem_of_getElem? (i := 201) rfl)) rfl
theorem zw_442 : (Jvm.Cond.selects "PortTranslator" ({ cls := "PortTranslator", name := "at", desc := "(I)I" } : Jvm.MethodName) ({ cls := "PortTranslator", name := "at", desc := "(I)I" } : Jvm.MethodName)) ∈ zz_TB := zz_t (zz_2 (List.mem_of_getElem? (i := 202) rfl)) rfl
theorem zw_443 : (Jvm.Cond.code ({ cls := "PortTranslator", name := "at", desc := "(I)I" } : Jvm.MethodName) prog_1_method_6_code (2 : Nat) (Option.some Jvm.ClassFile.FieldType.int)) ∈ zz_TB := zz_t (zz_2 (List.mem_of_getElem? (i := 203) rfl)) rfl
theorem zw_444 : (Jvm.Cond.classLink "PortTranslator" (77 : Nat) "java/lang/IndexOutOfBoundsException") ∈ zz_TB := zz_t (zz_2 (List.mem_of_getElem? (i := 204) rfl)) rfl
theorem zw_445 : (Jvm.Cond.instantiable "java/lang/IndexOutOfBoundsException" (6 : Nat)) ∈ zz_TB := zz_t (zz_2 (List.mem_of_getElem? (i := 205) rfl)) rfl
theorem zw_453 : (Jvm.Cond.selects "java/lang/IndexOutOfBoundsException" ({ cls := "java/lang/Throwable", name := "fillInStackTrace", desc := "(I)Ljava/lang/Throwable;" } : Jvm.MethodName) ({ cls := "java/lang/Throwable", name := "fillInStackTrace", desc := "(I)Ljava/lang/Throwable;" } : Jvm.MethodName)) ∈ zz_TB := zz_t (zz_2 (List.mem_of_getElem? (i := 213) rfl)) rfl
theorem zw_454 : (Jvm.Cond.selects "java/lang/IndexOutOfBoundsException" ({ cls := "java/lang/Throwable", name := "fillInStackTrace", desc := "()Ljava/lang/Throwable;" } : Jvm.MethodName) ({ cls := "java/lang/Throwable", name := "fillInStackTrace", desc := "()Ljava/lang/Throwable;" } : Jvm.MethodName)) ∈ zz_TB := zz_t (zz_2 (List.mem_of_getElem? (i := 214) rfl)) rfl
theorem zw_455 : (Jvm.Cond.lays "java/lang/IndexOutOfBoundsException" "java/lang/Throwable" "cause" "Ljava/lang/Throwable;") ∈ zz_TB := zz_t (zz_2 (List.mem_of_getElem? (i := 215) rfl)) rfl
theorem zw_456 : (Jvm.Cond.lays "java/lang/Throwable" "java/lang/Throwable" "cause" "Ljava/lang/Throwable;") ∈ zz_TB := zz_t (zz_2 (List.mem_of_getElem? (i := 216) rfl)) rfl
theorem zw_457 : (Jvm.Cond.lays "java/lang/IndexOutOfBoundsException" "java/lang/Throwable" "stackTrace" "[Ljava/lang/StackTraceElement;") ∈ zz_TB := zz_t (zz_2 (List.mem_of_getElem? (i := 217) rfl)) rfl
theorem zw_458 : (Jvm.Cond.lays "java/lang/Throwable" "java/lang/Throwable" "stackTrace" "[Ljava/lang/StackTraceElement;") ∈ zz_TB := zz_t (zz_2 (List.mem_of_getElem? (i := 218) rfl)) rfl
theorem zw_459 : (Jvm.Cond.lays "java/lang/IndexOutOfBoundsException" "java/lang/Throwable" "suppressedExceptions" "Ljava/util/List;") ∈ zz_TB := zz_t (zz_2 (List.mem_of_getElem? (i := 219) rfl)) rfl
theorem zw_460 : (Jvm.Cond.lays "java/lang/Throwable" "java/lang/Throwable" "suppressedExceptions" "Ljava/util/List;") ∈ zz_TB := zz_t (zz_2 (List.mem_of_getElem? (i := 220) rfl)) rfl
theorem zw_461 : (Jvm.Cond.lays "java/lang/IndexOutOfBoundsException" "java/lang/Throwable" "detailMessage" "Ljava/lang/String;") ∈ zz_TB := zz_t (zz_2 (List.mem_of_getElem? (i := 221) rfl)) rfl
theorem zw_462 : (Jvm.Cond.lays "java/lang/Throwable" "java/lang/Throwable" "detailMessage" "Ljava/lang/String;") ∈ zz_TB := zz_t (zz_2 (List.mem_of_getElem? (i := 222) rfl)) rfl
theorem zw_463 : (Jvm.Cond.lays "java/lang/IndexOutOfBoundsException" "java/lang/Throwable" "backtrace" "Ljava/lang/Object;") ∈ zz_TB := zz_t (zz_2 (List.mem_of_getElem? (i := 223) rfl)) rfl
theorem zw_464 : (Jvm.Cond.lays "java/lang/Throwable" "java/lang/Throwable" "backtrace" "Ljava/lang/Object;") ∈ zz_TB := zz_t (zz_2 (List.mem_of_getElem? (i := 224) rfl)) rfl
theorem zw_465 : (Jvm.Cond.fieldLink "java/lang/Throwable" (198 : Nat) "java/lang/Throwable" "backtrace" "Ljava/lang/Object;") ∈ zz_TB := zz_t (zz_2 (List.mem_of_getElem? (i := 225) rfl)) rfl
theorem zw_466 : (Jvm.Cond.superclass "java/lang/Throwable" "java/lang/Object") ∈ zz_TB := zz_t (zz_2 (List.mem_of_getElem? (i := 226) rfl)) rfl
theorem zw_467 : (Jvm.Cond.instanceMethod ({ cls := "java/lang/Throwable", name := "<init>", desc := "()V" } : Jvm.MethodName)) ∈ zz_TB := zz_t (zz_2 (List.mem_of_getElem? (i := 227) rfl)) rfl
theorem zw_468 : (Jvm.Cond.code ({ cls := "java/lang/Throwable", name := "<init>", desc := "()V" } : Jvm.MethodName) prog_15_method_1_code (1 : Nat) (Option.none : Option Jvm.ClassFile.FieldType)) ∈ zz_TB := zz_t (zz_2 (List.mem_of_getElem? (i := 228) rfl)) rfl
theorem zw_469 : (Jvm.Cond.methodLink "java/lang/Throwable" (1 : Nat) ({ cls := "java/lang/Object", name := "<init>", desc := "()V" } : Jvm.MethodName)) ∈ zz_TB := zz_t (zz_2 (List.mem_of_getElem? (i := 229) rfl)) rfl
theorem zw_470 : (Jvm.Cond.fieldLink "java/lang/Throwable" (13 : Nat) "java/lang/Throwable" "UNASSIGNED_STACK" "[Ljava/lang/StackTraceElement;") ∈ zz_TB := zz_t (zz_2 (List.mem_of_getElem? (i := 230) rfl)) rfl
theorem zw_472 : (Jvm.Cond.fieldLink "java/lang/Throwable" (20 : Nat) "java/lang/Throwable" "SUPPRESSED_SENTINEL" "Ljava/util/List;") ∈ zz_TB := zz_t (zz_2 (List.mem_of_getElem? (i := 232) rfl)) rfl
theorem zw_474 : (Jvm.Cond.methodLink "java/lang/Throwable" (27 : Nat) ({ cls := "java/lang/Throwable", name := "fillInStackTrace", desc := "()Ljava/lang/Throwable;" } : Jvm.MethodName)) ∈ zz_TB := zz_t (zz_2 (List.mem_of_getElem? (i := 234) rfl)) rfl
theorem zw_475 : (Jvm.Cond.instanceMethod ({ cls := "java/lang/Throwable", name := "fillInStackTrace", desc := "()Ljava/lang/Throwable;" } : Jvm.MethodName)) ∈ zz_TB := zz_t (zz_2 (List.mem_of_getElem? (i := 235) rfl)) rfl
theorem zw_476 : (Jvm.Cond.sameMethod "java/lang/Throwable" "java/lang/Throwable" "fillInStackTrace" "()Ljava/lang/Throwable;") ∈ zz_TB := zz_t (zz_2 (List.mem_of_getElem? (i := 236) rfl)) rfl
theorem zw_477 : (Jvm.Cond.selects "java/lang/IllegalArgumentException" ({ cls := "java/lang/Throwable", name := "fillInStackTrace", desc := "()Ljava/lang/Throwable;" } : Jvm.MethodName) ({ cls := "java/lang/Throwable", name := "fillInStackTrace", desc := "()Ljava/lang/Throwable;" } : Jvm.MethodName)) ∈ zz_TB := zz_t (zz_2 (List.mem_of_getElem? (i := 237) rfl)) rfl
theorem zw_479 : (Jvm.Cond.methodLink "java/lang/Throwable" (202 : Nat) ({ cls := "java/lang/Throwable", name := "fillInStackTrace", desc := "(I)Ljava/lang/Throwable;" } : Jvm.MethodName)) ∈ zz_TB := zz_t (zz_2 (List.mem_of_getElem? (i := 239) rfl)) rfl
theorem zw_481 : (Jvm.Cond.instanceMethod ({ cls := "java/lang/Throwable", name := "fillInStackTrace", desc := "(I)Ljava/lang/Throwable;" } : Jvm.MethodName)) ∈ zz_TB := zz_t (zz_3 (List.mem_of_getElem? (i := 1) rfl)) rfl
theorem zw_482 : (Jvm.Cond.instantiable "java/lang/Throwable" (6 : Nat)) ∈ zz_TB := zz_t (zz_3 (List.mem_of_getElem? (i := 2) rfl)) rfl
theorem zw_483 : (Jvm.Cond.native ({ cls := "java/lang/Throwable", name := "fillInStackTrace", desc := "(I)Ljava/lang/Throwable;" } : Jvm.MethodName)) ∈ zz_TB := zz_t (zz_3 (List.mem_of_getElem? (i := 3) rfl)) rfl
theorem zw_484 : (Jvm.Cond.methodLink "PortTranslator" (79 : Nat) ({ cls := "java/lang/IndexOutOfBoundsException", name := "<init>", desc := "()V" } : Jvm.MethodName)) ∈ zz_TB := zz_t (zz_3 (List.mem_of_getElem? (i := 4) rfl)) rfl
theorem zw_485 : (Jvm.Cond.instanceMethod ({ cls := "java/lang/IndexOutOfBoundsException", name := "<init>", desc := "()V" } : Jvm.MethodName)) ∈ zz_TB := zz_t (zz_3 (List.mem_of_getElem? (i := 5) rfl)) rfl
theorem zw_486 : (Jvm.Cond.code ({ cls := "java/lang/IndexOutOfBoundsException", name := "<init>", desc := "()V" } : Jvm.MethodName) prog_12_method_1_code (1 : Nat) (Option.none : Option Jvm.ClassFile.FieldType)) ∈ zz_TB := zz_t (zz_3 (List.mem_of_getElem? (i := 6) rfl)) rfl
theorem zw_487 : (Jvm.Cond.methodLink "java/lang/IndexOutOfBoundsException" (1 : Nat) ({ cls := "java/lang/RuntimeException", name := "<init>", desc := "()V" } : Jvm.MethodName)) ∈ zz_TB := zz_t (zz_3 (List.mem_of_getElem? (i := 7) rfl)) rfl
theorem zw_488 : (Jvm.Cond.instanceMethod ({ cls := "java/lang/RuntimeException", name := "<init>", desc := "()V" } : Jvm.MethodName)) ∈ zz_TB := zz_t (zz_3 (List.mem_of_getElem? (i := 8) rfl)) rfl
theorem zw_489 : (Jvm.Cond.code ({ cls := "java/lang/RuntimeException", name := "<init>", desc := "()V" } : Jvm.MethodName) prog_13_method_1_code (1 : Nat) (Option.none : Option Jvm.ClassFile.FieldType)) ∈ zz_TB := zz_t (zz_3 (List.mem_of_getElem? (i := 9) rfl)) rfl
theorem zw_490 : (Jvm.Cond.methodLink "java/lang/RuntimeException" (1 : Nat) ({ cls := "java/lang/Exception", name := "<init>", desc := "()V" } : Jvm.MethodName)) ∈ zz_TB := zz_t (zz_3 (List.mem_of_getElem? (i := 10) rfl)) rfl
theorem zw_491 : (Jvm.Cond.instanceMethod ({ cls := "java/lang/Exception", name := "<init>", desc := "()V" } : Jvm.MethodName)) ∈ zz_TB := zz_t (zz_3 (List.mem_of_getElem? (i := 11) rfl)) rfl
theorem zw_492 : (Jvm.Cond.code ({ cls := "java/lang/Exception", name := "<init>", desc := "()V" } : Jvm.MethodName) prog_10_method_1_code (1 : Nat) (Option.none : Option Jvm.ClassFile.FieldType)) ∈ zz_TB := zz_t (zz_3 (List.mem_of_getElem? (i := 12) rfl)) rfl
theorem zw_493 : (Jvm.Cond.methodLink "java/lang/Exception" (1 : Nat) ({ cls := "java/lang/Throwable", name := "<init>", desc := "()V" } : Jvm.MethodName)) ∈ zz_TB := zz_t (zz_3 (List.mem_of_getElem? (i := 13) rfl)) rfl
theorem zw_494 : (Jvm.Cond.fieldLink "java/lang/Throwable" (198 : Nat) "java/lang/Throwable" "backtrace" "Ljava/lang/Object;") ∈ zz_TB := zz_t (zz_3 (List.mem_of_getElem? (i := 14) rfl)) rfl
theorem zw_495 : (Jvm.Cond.fieldLink "java/lang/Throwable" (7 : Nat) "java/lang/Throwable" "cause" "Ljava/lang/Throwable;") ∈ zz_TB := zz_t (zz_3 (List.mem_of_getElem? (i := 15) rfl)) rfl
theorem zw_496 : (Jvm.Cond.fieldLink "java/lang/Throwable" (17 : Nat) "java/lang/Throwable" "stackTrace" "[Ljava/lang/StackTraceElement;") ∈ zz_TB := zz_t (zz_3 (List.mem_of_getElem? (i := 16) rfl)) rfl
theorem zw_497 : (Jvm.Cond.fieldLink "java/lang/Throwable" (24 : Nat) "java/lang/Throwable" "suppressedExceptions" "Ljava/util/List;") ∈ zz_TB := zz_t (zz_3 (List.mem_of_getElem? (i := 17) rfl)) rfl
theorem zw_502 : (Jvm.Cond.lays "java/lang/IndexOutOfBoundsException" "java/lang/Throwable" "depth" "I") ∈ zz_TB := zz_t (zz_3 (List.mem_of_getElem? (i := 22) rfl)) rfl
theorem zw_505 : (Jvm.Cond.superclass "java/lang/IndexOutOfBoundsException" "java/lang/RuntimeException") ∈ zz_TB := zz_t (zz_3 (List.mem_of_getElem? (i := 25) rfl)) rfl
theorem zw_506 : (Jvm.Cond.methodLink "PortTranslatorLaw" (65 : Nat) ({ cls := "PortTranslatorLaw", name := "tick", desc := "(LPortTranslator;I[J)I" } : Jvm.MethodName)) ∈ zz_TB := zz_t (zz_3 (List.mem_of_getElem? (i := 26) rfl)) rfl
theorem zw_507 : (Jvm.Cond.static ({ cls := "PortTranslatorLaw", name := "tick", desc := "(LPortTranslator;I[J)I" } : Jvm.MethodName)) ∈ zz_TB := zz_t (zz_3 (List.mem_of_getElem? (i := 27) rfl)) rfl
theorem zw_508 : (Jvm.Cond.codeWith ({ cls := "PortTranslatorLaw", name := "tick", desc := "(LPortTranslator;I[J)I" } : Jvm.MethodName) method_4_code (4 : Nat) (Option.some Jvm.ClassFile.FieldType.int) [((0 : Nat), (9 : Nat), (12 : Nat), (18 : Nat))]) ∈ zz_TB := zz_t (zz_3 (List.mem_of_getElem? (i := 28) rfl)) rfl
theorem zw_509 : (Jvm.Cond.classLink "PortTranslatorLaw" (18 : Nat) "java/lang/IllegalArgumentException") ∈ zz_TB := zz_t (zz_3 (List.mem_of_getElem? (i := 29) rfl)) rfl
theorem zw_510 : (Jvm.Cond.methodLink "PortTranslatorLaw" (15 : Nat) ({ cls := "PortTranslator", name := "tick", desc := "(I)I" } : Jvm.MethodName)) ∈ zz_TB := zz_t (zz_3 (List.mem_of_getElem? (i := 30) rfl)) rfl
theorem zw_511 : (Jvm.Cond.instanceMethod ({ cls := "PortTranslator", name := "tick", desc := "(I)I" } : Jvm.MethodName)) ∈ zz_TB := zz_t (zz_3 (List.mem_of_getElem? (i := 31) rfl)) rfl
theorem zw_512 : (Jvm.Cond.selects "PortTranslator" ({ cls := "PortTranslator", name := "tick", desc := "(I)I" } : Jvm.MethodName) ({ cls := "PortTranslator", name := "tick", desc := "(I)I" } : Jvm.MethodName)) ∈ zz_TB := zz_t (zz_3 (List.mem_of_getElem? (i := 32) rfl)) rfl
theorem zw_513 : (Jvm.Cond.code ({ cls := "PortTranslator", name := "tick", desc := "(I)I" } : Jvm.MethodName) prog_1_method_7_code (2 : Nat) (Option.some Jvm.ClassFile.FieldType.int)) ∈ zz_TB := zz_t (zz_3 (List.mem_of_getElem? (i := 33) rfl)) rfl
theorem zw_514 : (Jvm.Cond.classLink "PortTranslator" (84 : Nat) "java/lang/IllegalArgumentException") ∈ zz_TB := zz_t (zz_3 (List.mem_of_getElem? (i := 34) rfl)) rfl
theorem zw_515 : (Jvm.Cond.instantiable "java/lang/IllegalArgumentException" (6 : Nat)) ∈ zz_TB := zz_t (zz_3 (List.mem_of_getElem? (i := 35) rfl)) rfl
theorem zw_517 : (Jvm.Cond.selects "java/lang/IllegalArgumentException" ({ cls := "java/lang/Throwable", name := "fillInStackTrace", desc := "(I)Ljava/lang/Throwable;" } : Jvm.MethodName) ({ cls := "java/lang/Throwable", name := "fillInStackTrace", desc := "(I)Ljava/lang/Throwable;" } : Jvm.MethodName)) ∈ zz_TB := zz_t (zz_3 (List.mem_of_getElem? (i := 37) rfl)) rfl
theorem zw_518 : (Jvm.Cond.lays "java/lang/IllegalArgumentException" "java/lang/Throwable" "cause" "Ljava/lang/Throwable;") ∈ zz_TB := zz_t (zz_3 (List.mem_of_getElem? (i := 38) rfl)) rfl
theorem zw_519 : (Jvm.Cond.lays "java/lang/IllegalArgumentException" "java/lang/Throwable" "stackTrace" "[Ljava/lang/StackTraceElement;") ∈ zz_TB := zz_t (zz_3 (List.mem_of_getElem? (i := 39) rfl)) rfl
theorem zw_520 : (Jvm.Cond.lays "java/lang/IllegalArgumentException" "java/lang/Throwable" "suppressedExceptions" "Ljava/util/List;") ∈ zz_TB := zz_t (zz_3 (List.mem_of_getElem? (i := 40) rfl)) rfl
theorem zw_521 : (Jvm.Cond.lays "java/lang/IllegalArgumentException" "java/lang/Throwable" "detailMessage" "Ljava/lang/String;") ∈ zz_TB := zz_t (zz_3 (List.mem_of_getElem? (i := 41) rfl)) rfl
theorem zw_522 : (Jvm.Cond.lays "java/lang/IllegalArgumentException" "java/lang/Throwable" "backtrace" "Ljava/lang/Object;") ∈ zz_TB := zz_t (zz_3 (List.mem_of_getElem? (i := 42) rfl)) rfl
theorem zw_523 : (Jvm.Cond.methodLink "PortTranslator" (86 : Nat) ({ cls := "java/lang/IllegalArgumentException", name := "<init>", desc := "()V" } : Jvm.MethodName)) ∈ zz_TB := zz_t (zz_3 (List.mem_of_getElem? (i := 43) rfl)) rfl
theorem zw_524 : (Jvm.Cond.instanceMethod ({ cls := "java/lang/IllegalArgumentException", name := "<init>", desc := "()V" } : Jvm.MethodName)) ∈ zz_TB := zz_t (zz_3 (List.mem_of_getElem? (i := 44) rfl)) rfl
theorem zw_525 : (Jvm.Cond.code ({ cls := "java/lang/IllegalArgumentException", name := "<init>", desc := "()V" } : Jvm.MethodName) prog_11_method_1_code (1 : Nat) (Option.none : Option Jvm.ClassFile.FieldType)) ∈ zz_TB := zz_t (zz_3 (List.mem_of_getElem? (i := 45) rfl)) rfl
theorem zw_526 : (Jvm.Cond.methodLink "java/lang/IllegalArgumentException" (1 : Nat) ({ cls := "java/lang/RuntimeException", name := "<init>", desc := "()V" } : Jvm.MethodName)) ∈ zz_TB := zz_t (zz_3 (List.mem_of_getElem? (i := 46) rfl)) rfl
theorem zw_527 : (Jvm.Cond.lays "java/lang/IllegalArgumentException" "java/lang/Throwable" "depth" "I") ∈ zz_TB := zz_t (zz_3 (List.mem_of_getElem? (i := 47) rfl)) rfl
theorem zw_528 : (Jvm.Cond.superclass "java/lang/IllegalArgumentException" "java/lang/RuntimeException") ∈ zz_TB := zz_t (zz_3 (List.mem_of_getElem? (i := 48) rfl)) rfl
theorem zw_529 : (Jvm.Cond.methodLink "PortTranslator" (87 : Nat) ({ cls := "PortTranslator$FlowTable", name := "grow", desc := "(I)I" } : Jvm.MethodName)) ∈ zz_TB := zz_t (zz_3 (List.mem_of_getElem? (i := 49) rfl)) rfl
theorem zw_530 : (Jvm.Cond.instanceMethod ({ cls := "PortTranslator$FlowTable", name := "grow", desc := "(I)I" } : Jvm.MethodName)) ∈ zz_TB := zz_t (zz_3 (List.mem_of_getElem? (i := 50) rfl)) rfl
theorem zw_531 : (Jvm.Cond.selects "PortTranslator$FlowTable" ({ cls := "PortTranslator$FlowTable", name := "grow", desc := "(I)I" } : Jvm.MethodName) ({ cls := "PortTranslator$FlowTable", name := "grow", desc := "(I)I" } : Jvm.MethodName)) ∈ zz_TB := zz_t (zz_3 (List.mem_of_getElem? (i := 51) rfl)) rfl
theorem zw_532 : (Jvm.Cond.code ({ cls := "PortTranslator$FlowTable", name := "grow", desc := "(I)I" } : Jvm.MethodName) prog_3_method_9_code (4 : Nat) (Option.some Jvm.ClassFile.FieldType.int)) ∈ zz_TB := zz_t (zz_3 (List.mem_of_getElem? (i := 52) rfl)) rfl
theorem zw_533 : (Jvm.Cond.methodLink "PortTranslator$FlowTable" (64 : Nat) ({ cls := "PortTranslator$Flow", name := "isOver", desc := "()Z" } : Jvm.MethodName)) ∈ zz_TB := zz_t (zz_3 (List.mem_of_getElem? (i := 53) rfl)) rfl
theorem zw_534 : (Jvm.Cond.instanceMethod ({ cls := "PortTranslator$Flow", name := "isOver", desc := "()Z" } : Jvm.MethodName)) ∈ zz_TB := zz_t (zz_3 (List.mem_of_getElem? (i := 54) rfl)) rfl
theorem zw_535 : (Jvm.Cond.selects "PortTranslator$Flow" ({ cls := "PortTranslator$Flow", name := "isOver", desc := "()Z" } : Jvm.MethodName) ({ cls := "PortTranslator$Flow", name := "isOver", desc := "()Z" } : Jvm.MethodName)) ∈ zz_TB := zz_t (zz_3 (List.mem_of_getElem? (i := 55) rfl)) rfl
theorem zw_536 : (Jvm.Cond.code ({ cls := "PortTranslator$Flow", name := "isOver", desc := "()Z" } : Jvm.MethodName) prog_2_method_7_code (1 : Nat) (Option.some Jvm.ClassFile.FieldType.boolean)) ∈ zz_TB := zz_t (zz_3 (List.mem_of_getElem? (i := 56) rfl)) rfl
theorem zw_537 : (Jvm.Cond.methodLink "PortTranslator$Flow" (58 : Nat) ({ cls := "PortTranslator$Flow", name := "life", desc := "()I" } : Jvm.MethodName)) ∈ zz_TB := zz_t (zz_3 (List.mem_of_getElem? (i := 57) rfl)) rfl
theorem zw_539 : (Jvm.Cond.instanceMethod ({ cls := "PortTranslator$Flow", name := "life", desc := "()I" } : Jvm.MethodName)) ∈ zz_TB := zz_t (zz_3 (List.mem_of_getElem? (i := 59) rfl)) rfl
theorem zw_540 : (Jvm.Cond.code ({ cls := "PortTranslator$Flow", name := "life", desc := "()I" } : Jvm.MethodName) prog_2_method_8_code (1 : Nat) (Option.some Jvm.ClassFile.FieldType.int)) ∈ zz_TB := zz_t (zz_3 (List.mem_of_getElem? (i := 60) rfl)) rfl
theorem zw_541 : (Jvm.Cond.methodLink "PortTranslatorLaw" (68 : Nat) ({ cls := "PortTranslatorLaw", name := "rule", desc := "(LPortTranslator;IIIIZ[J)I" } : Jvm.MethodName)) ∈ zz_TB := zz_t (zz_3 (List.mem_of_getElem? (i := 61) rfl)) rfl
theorem zw_542 : (Jvm.Cond.static ({ cls := "PortTranslatorLaw", name := "rule", desc := "(LPortTranslator;IIIIZ[J)I" } : Jvm.MethodName)) ∈ zz_TB := zz_t (zz_3 (List.mem_of_getElem? (i := 62) rfl)) rfl
theorem zw_543 : (Jvm.Cond.codeWith ({ cls := "PortTranslatorLaw", name := "rule", desc := "(LPortTranslator;IIIIZ[J)I" } : Jvm.MethodName) method_5_code (8 : Nat) (Option.some Jvm.ClassFile.FieldType.int) [((0 : Nat), (16 : Nat), (19 : Nat), (18 : Nat))]) ∈ zz_TB := zz_t (zz_3 (List.mem_of_getElem? (i := 63) rfl)) rfl
theorem zw_544 : (Jvm.Cond.methodLink "PortTranslatorLaw" (20 : Nat) ({ cls := "PortTranslator", name := "rule", desc := "(IIIIZ)I" } : Jvm.MethodName)) ∈ zz_TB := zz_t (zz_3 (List.mem_of_getElem? (i := 64) rfl)) rfl
theorem zw_545 : (Jvm.Cond.instanceMethod ({ cls := "PortTranslator", name := "rule", desc := "(IIIIZ)I" } : Jvm.MethodName)) ∈ zz_TB := zz_t (zz_3 (List.mem_of_getElem? (i := 65) rfl)) rfl
theorem zw_546 : (Jvm.Cond.selects "PortTranslator" ({ cls := "PortTranslator", name := "rule", desc := "(IIIIZ)I" } : Jvm.MethodName) ({ cls := "PortTranslator", name := "rule", desc := "(IIIIZ)I" } : Jvm.MethodName)) ∈ zz_TB := zz_t (zz_3 (List.mem_of_getElem? (i := 66) rfl)) rfl
theorem zw_547 : (Jvm.Cond.code ({ cls := "PortTranslator", name := "rule", desc := "(IIIIZ)I" } : Jvm.MethodName) prog_1_method_8_code (6 : Nat) (Option.some Jvm.ClassFile.FieldType.int)) ∈ zz_TB := zz_t (zz_3 (List.mem_of_getElem? (i := 67) rfl)) rfl
theorem zw_548 : (Jvm.Cond.methodLink "PortTranslator" (91 : Nat) ({ cls := "PortTranslator$RuleList", name := "isNumber", desc := "(I)Z" } : Jvm.MethodName)) ∈ zz_TB := zz_t (zz_3 (List.mem_of_getElem? (i := 68) rfl)) rfl
theorem zw_549 : (Jvm.Cond.static ({ cls := "PortTranslator$RuleList", name := "isNumber", desc := "(I)Z" } : Jvm.MethodName)) ∈ zz_TB := zz_t (zz_3 (List.mem_of_getElem? (i := 69) rfl)) rfl
theorem zw_550 : (Jvm.Cond.code ({ cls := "PortTranslator$RuleList", name := "isNumber", desc := "(I)Z" } : Jvm.MethodName) prog_6_method_2_code (1 : Nat) (Option.some Jvm.ClassFile.FieldType.boolean)) ∈ zz_TB := zz_t (zz_3 (List.mem_of_getElem? (i := 70) rfl)) rfl
theorem zw_551 : (Jvm.Cond.methodLink "PortTranslator" (94 : Nat) ({ cls := "PortTranslator", name := "isKind", desc := "(I)Z" } : Jvm.MethodName)) ∈ zz_TB := zz_t (zz_3 (List.mem_of_getElem? (i := 71) rfl)) rfl
theorem zw_552 : (Jvm.Cond.methodLink "PortTranslator" (101 : Nat) ({ cls := "PortTranslator$Rule", name := "become", desc := "(IIIZ)V" } : Jvm.MethodName)) ∈ zz_TB := zz_t (zz_3 (List.mem_of_getElem? (i := 72) rfl)) rfl
theorem zw_553 : (Jvm.Cond.instanceMethod ({ cls := "PortTranslator$Rule", name := "become", desc := "(IIIZ)V" } : Jvm.MethodName)) ∈ zz_TB := zz_t (zz_3 (List.mem_of_getElem? (i := 73) rfl)) rfl
theorem zw_554 : (Jvm.Cond.selects "PortTranslator$Rule" ({ cls := "PortTranslator$Rule", name := "become", desc := "(IIIZ)V" } : Jvm.MethodName) ({ cls := "PortTranslator$Rule", name := "become", desc := "(IIIZ)V" } : Jvm.MethodName)) ∈ zz_TB := zz_t (zz_3 (List.mem_of_getElem? (i := 74) rfl)) rfl
theorem zw_555 : (Jvm.Cond.code ({ cls := "PortTranslator$Rule", name := "become", desc := "(IIIZ)V" } : Jvm.MethodName) prog_5_method_2_code (5 : Nat) (Option.none : Option Jvm.ClassFile.FieldType)) ∈ zz_TB := zz_t (zz_3 (List.mem_of_getElem? (i := 75) rfl)) rfl
theorem zw_556 : (Jvm.Cond.methodLink "PortTranslator" (107 : Nat) ({ cls := "PortTranslator$RuleList", name := "count", desc := "()I" } : Jvm.MethodName)) ∈ zz_TB := zz_t (zz_3 (List.mem_of_getElem? (i := 76) rfl)) rfl
theorem zw_557 : (Jvm.Cond.instanceMethod ({ cls := "PortTranslator$RuleList", name := "count", desc := "()I" } : Jvm.MethodName)) ∈ zz_TB := zz_t (zz_3 (List.mem_of_getElem? (i := 77) rfl)) rfl
theorem zw_558 : (Jvm.Cond.selects "PortTranslator$RuleList" ({ cls := "PortTranslator$RuleList", name := "count", desc := "()I" } : Jvm.MethodName) ({ cls := "PortTranslator$RuleList", name := "count", desc := "()I" } : Jvm.MethodName)) ∈ zz_TB := zz_t (zz_3 (List.mem_of_getElem? (i := 78) rfl)) rfl
theorem zw_559 : (Jvm.Cond.code ({ cls := "PortTranslator$RuleList", name := "count", desc := "()I" } : Jvm.MethodName) prog_6_method_3_code (3 : Nat) (Option.some Jvm.ClassFile.FieldType.int)) ∈ zz_TB := zz_t (zz_3 (List.mem_of_getElem? (i := 79) rfl)) rfl
theorem zw_560 : (Jvm.Cond.methodLink "PortTranslatorLaw" (72 : Nat) ({ cls := "PortTranslatorLaw", name := "forget", desc := "(LPortTranslator;I[J)I" } : Jvm.MethodName)) ∈ zz_TB := zz_t (zz_3 (List.mem_of_getElem? (i := 80) rfl)) rfl
theorem zw_561 : (Jvm.Cond.static ({ cls := "PortTranslatorLaw", name := "forget", desc := "(LPortTranslator;I[J)I" } : Jvm.MethodName)) ∈ zz_TB := zz_t (zz_3 (List.mem_of_getElem? (i := 81) rfl)) rfl
theorem zw_562 : (Jvm.Cond.codeWith ({ cls := "PortTranslatorLaw", name := "forget", desc := "(LPortTranslator;I[J)I" } : Jvm.MethodName) method_6_code (4 : Nat) (Option.some Jvm.ClassFile.FieldType.int) [((0 : Nat), (9 : Nat), (12 : Nat), (18 : Nat))]) ∈ zz_TB := zz_t (zz_3 (List.mem_of_getElem? (i := 82) rfl)) rfl
theorem zw_563 : (Jvm.Cond.methodLink "PortTranslatorLaw" (24 : Nat) ({ cls := "PortTranslator", name := "forget", desc := "(I)I" } : Jvm.MethodName)) ∈ zz_TB := zz_t (zz_3 (List.mem_of_getElem? (i := 83) rfl)) rfl
theorem zw_564 : (Jvm.Cond.instanceMethod ({ cls := "PortTranslator", name := "forget", desc := "(I)I" } : Jvm.MethodName)) ∈ zz_TB := zz_t (zz_3 (List.mem_of_getElem? (i := 84) rfl)) rfl
theorem zw_565 : (Jvm.Cond.selects "PortTranslator" ({ cls := "PortTranslator", name := "forget", desc := "(I)I" } : Jvm.MethodName) ({ cls := "PortTranslator", name := "forget", desc := "(I)I" } : Jvm.MethodName)) ∈ zz_TB := zz_t (zz_3 (List.mem_of_getElem? (i := 85) rfl)) rfl
theorem zw_566 : (Jvm.Cond.code ({ cls := "PortTranslator", name := "forget", desc := "(I)I" } : Jvm.MethodName) prog_1_method_9_code (2 : Nat) (Option.some Jvm.ClassFile.FieldType.int)) ∈ zz_TB := zz_t (zz_3 (List.mem_of_getElem? (i := 86) rfl)) rfl
theorem zw_567 : (Jvm.Cond.methodLink "PortTranslatorLaw" (79 : Nat) ({ cls := "PortTranslatorLaw", name := "flow", desc := "(LPortTranslator;II[J)I" } : Jvm.MethodName)) ∈ zz_TB := zz_t (zz_3 (List.mem_of_getElem? (i := 87) rfl)) rfl
theorem zw_568 : (Jvm.Cond.static ({ cls := "PortTranslatorLaw", name := "flow", desc := "(LPortTranslator;II[J)I" } : Jvm.MethodName)) ∈ zz_TB := zz_t (zz_3 (List.mem_of_getElem? (i := 88) rfl)) rfl
theorem zw_569 : (Jvm.Cond.codeWith ({ cls := "PortTranslatorLaw", name := "flow", desc := "(LPortTranslator;II[J)I" } : Jvm.MethodName) method_7_code (5 : Nat) (Option.some Jvm.ClassFile.FieldType.int) [((0 : Nat), (10 : Nat), (13 : Nat), (13 : Nat)), ((0 : Nat), (10 : Nat), (17 : Nat), (18 : Nat))]) ∈ zz_TB := zz_t (zz_3 (List.mem_of_getElem? (i := 89) rfl)) rfl
theorem zw_570 : (Jvm.Cond.methodLink "PortTranslatorLaw" (27 : Nat) ({ cls := "PortTranslator", name := "flow", desc := "(II)I" } : Jvm.MethodName)) ∈ zz_TB := zz_t (zz_3 (List.mem_of_getElem? (i := 90) rfl)) rfl
theorem zw_571 : (Jvm.Cond.instanceMethod ({ cls := "PortTranslator", name := "flow", desc := "(II)I" } : Jvm.MethodName)) ∈ zz_TB := zz_t (zz_3 (List.mem_of_getElem? (i := 91) rfl)) rfl
theorem zw_572 : (Jvm.Cond.selects "PortTranslator" ({ cls := "PortTranslator", name := "flow", desc := "(II)I" } : Jvm.MethodName) ({ cls := "PortTranslator", name := "flow", desc := "(II)I" } : Jvm.MethodName)) ∈ zz_TB := zz_t (zz_3 (List.mem_of_getElem? (i := 92) rfl)) rfl
theorem zw_573 : (Jvm.Cond.code ({ cls := "PortTranslator", name := "flow", desc := "(II)I" } : Jvm.MethodName) prog_1_method_11_code (3 : Nat) (Option.some Jvm.ClassFile.FieldType.int)) ∈ zz_TB := zz_t (zz_3 (List.mem_of_getElem? (i := 93) rfl)) rfl
theorem zw_574 : (Jvm.Cond.methodLink "PortTranslator" (119 : Nat) ({ cls := "PortTranslator$Flow", name := "detail", desc := "(I)I" } : Jvm.MethodName)) ∈ zz_TB := zz_t (zz_3 (List.mem_of_getElem? (i := 94) rfl)) rfl
theorem zw_575 : (Jvm.Cond.instanceMethod ({ cls := "PortTranslator$Flow", name := "detail", desc := "(I)I" } : Jvm.MethodName)) ∈ zz_TB := zz_t (zz_3 (List.mem_of_getElem? (i := 95) rfl)) rfl
theorem zw_576 : (Jvm.Cond.selects "PortTranslator$Flow" ({ cls := "PortTranslator$Flow", name := "detail", desc := "(I)I" } : Jvm.MethodName) ({ cls := "PortTranslator$Flow", name := "detail", desc := "(I)I" } : Jvm.MethodName)) ∈ zz_TB := zz_t (zz_3 (List.mem_of_getElem? (i := 96) rfl)) rfl
theorem zw_577 : (Jvm.Cond.code ({ cls := "PortTranslator$Flow", name := "detail", desc := "(I)I" } : Jvm.MethodName) prog_2_method_9_code (2 : Nat) (Option.some Jvm.ClassFile.FieldType.int)) ∈ zz_TB := zz_t (zz_3 (List.mem_of_getElem? (i := 97) rfl)) rfl
theorem zw_578 : (Jvm.Cond.classLink "PortTranslatorLaw" (32 : Nat) "PortTranslatorModel") ∈ zz_TB := zz_t (zz_3 (List.mem_of_getElem? (i := 98) rfl)) rfl
theorem zw_579 : (Jvm.Cond.instantiable "PortTranslatorModel" (18 : Nat)) ∈ zz_TB := zz_t (zz_3 (List.mem_of_getElem? (i := 99) rfl)) rfl
theorem zw_580 : (Jvm.Cond.methodLink "PortTranslatorLaw" (34 : Nat) ({ cls := "PortTranslatorModel", name := "<init>", desc := "()V" } : Jvm.MethodName)) ∈ zz_TB := zz_t (zz_3 (List.mem_of_getElem? (i := 100) rfl)) rfl
theorem zw_581 : (Jvm.Cond.instanceMethod ({ cls := "PortTranslatorModel", name := "<init>", desc := "()V" } : Jvm.MethodName)) ∈ zz_TB := zz_t (zz_3 (List.mem_of_getElem? (i := 101) rfl)) rfl
theorem zw_582 : (Jvm.Cond.code ({ cls := "PortTranslatorModel", name := "<init>", desc := "()V" } : Jvm.MethodName) prog_9_method_1_code (2 : Nat) (Option.none : Option Jvm.ClassFile.FieldType)) ∈ zz_TB := zz_t (zz_3 (List.mem_of_getElem? (i := 102) rfl)) rfl
theorem zw_583 : (Jvm.Cond.methodLink "PortTranslatorModel" (1 : Nat) ({ cls := "java/lang/Object", name := "<init>", desc := "()V" } : Jvm.MethodName)) ∈ zz_TB := zz_t (zz_3 (List.mem_of_getElem? (i := 103) rfl)) rfl
theorem zw_584 : (Jvm.Cond.fieldLink "PortTranslatorModel" (7 : Nat) "PortTranslatorModel" "w" "[I") ∈ zz_TB := zz_t (zz_3 (List.mem_of_getElem? (i := 104) rfl)) rfl
theorem zw_585 : (Jvm.Cond.fieldLink "PortTranslatorModel" (57 : Nat) "PortTranslatorModel" "size" "I") ∈ zz_TB := zz_t (zz_3 (List.mem_of_getElem? (i := 105) rfl)) rfl
theorem zw_586 : (Jvm.Cond.fieldLink "PortTranslatorModel" (13 : Nat) "PortTranslatorModel" "last" "[I") ∈ zz_TB := zz_t (zz_3 (List.mem_of_getElem? (i := 106) rfl)) rfl
theorem zw_587 : (Jvm.Cond.fieldLink "PortTranslatorModel" (152 : Nat) "PortTranslatorModel" "lastSize" "I") ∈ zz_TB := zz_t (zz_3 (List.mem_of_getElem? (i := 107) rfl)) rfl
theorem zw_588 : (Jvm.Cond.fieldLink "PortTranslatorModel" (16 : Nat) "PortTranslatorModel" "ruleKind" "[I") ∈ zz_TB := zz_t (zz_3 (List.mem_of_getElem? (i := 108) rfl)) rfl
theorem zw_589 : (Jvm.Cond.fieldLink "PortTranslatorModel" (19 : Nat) "PortTranslatorModel" "network" "[I") ∈ zz_TB := zz_t (zz_3 (List.mem_of_getElem? (i := 109) rfl)) rfl
theorem zw_590 : (Jvm.Cond.fieldLink "PortTranslatorModel" (22 : Nat) "PortTranslatorModel" "bits" "[I") ∈ zz_TB := zz_t (zz_3 (List.mem_of_getElem? (i := 110) rfl)) rfl
theorem zw_591 : (Jvm.Cond.fieldLink "PortTranslatorModel" (25 : Nat) "PortTranslatorModel" "permit" "[Z") ∈ zz_TB := zz_t (zz_3 (List.mem_of_getElem? (i := 111) rfl)) rfl
theorem zw_592 : (Jvm.Cond.fieldLink "PortTranslatorModel" (93 : Nat) "PortTranslatorModel" "flows" "I") ∈ zz_TB := zz_t (zz_3 (List.mem_of_getElem? (i := 112) rfl)) rfl
theorem zw_593 : (Jvm.Cond.fieldLink "PortTranslatorModel" (29 : Nat) "PortTranslatorModel" "kind" "[I") ∈ zz_TB := zz_t (zz_3 (List.mem_of_getElem? (i := 113) rfl)) rfl
theorem zw_594 : (Jvm.Cond.fieldLink "PortTranslatorModel" (32 : Nat) "PortTranslatorModel" "inner" "[I") ∈ zz_TB := zz_t (zz_3 (List.mem_of_getElem? (i := 114) rfl)) rfl
theorem zw_595 : (Jvm.Cond.fieldLink "PortTranslatorModel" (35 : Nat) "PortTranslatorModel" "innerPort" "[I") ∈ zz_TB := zz_t (zz_3 (List.mem_of_getElem? (i := 115) rfl)) rfl
theorem zw_596 : (Jvm.Cond.fieldLink "PortTranslatorModel" (38 : Nat) "PortTranslatorModel" "outer" "[I") ∈ zz_TB := zz_t (zz_3 (List.mem_of_getElem? (i := 116) rfl)) rfl
theorem zw_597 : (Jvm.Cond.fieldLink "PortTranslatorModel" (41 : Nat) "PortTranslatorModel" "outerPort" "[I") ∈ zz_TB := zz_t (zz_3 (List.mem_of_getElem? (i := 117) rfl)) rfl
theorem zw_598 : (Jvm.Cond.fieldLink "PortTranslatorModel" (44 : Nat) "PortTranslatorModel" "own" "[I") ∈ zz_TB := zz_t (zz_3 (List.mem_of_getElem? (i := 118) rfl)) rfl
theorem zw_599 : (Jvm.Cond.fieldLink "PortTranslatorModel" (47 : Nat) "PortTranslatorModel" "age" "[I") ∈ zz_TB := zz_t (zz_3 (List.mem_of_getElem? (i := 119) rfl)) rfl
theorem zw_600 : (Jvm.Cond.fieldLink "PortTranslatorModel" (50 : Nat) "PortTranslatorModel" "flags" "[I") ∈ zz_TB := zz_t (zz_3 (List.mem_of_getElem? (i := 120) rfl)) rfl
theorem zw_601 : (Jvm.Cond.fieldLink "PortTranslatorModel" (53 : Nat) "PortTranslatorModel" "code" "I") ∈ zz_TB := zz_t (zz_3 (List.mem_of_getElem? (i := 121) rfl)) rfl
theorem zw_602 : (Jvm.Cond.laysFinal "PortTranslatorModel" "PortTranslatorModel" "w" "[I") ∈ zz_TB := zz_t (zz_3 (List.mem_of_getElem? (i := 122) rfl)) rfl
theorem zw_604 : (Jvm.Cond.lays "PortTranslatorModel" "PortTranslatorModel" "size" "I") ∈ zz_TB := zz_t (zz_3 (List.mem_of_getElem? (i := 124) rfl)) rfl
theorem zw_606 : (Jvm.Cond.laysFinal "PortTranslatorModel" "PortTranslatorModel" "last" "[I") ∈ zz_TB := zz_t (zz_3 (List.mem_of_getElem? (i := 126) rfl)) rfl
theorem zw_608 : (Jvm.Cond.lays "PortTranslatorModel" "PortTranslatorModel" "lastSize" "I") ∈ zz_TB := zz_t (zz_3 (List.mem_of_getElem? (i := 128) rfl)) rfl
theorem zw_610 : (Jvm.Cond.laysFinal "PortTranslatorModel" "PortTranslatorModel" "ruleKind" "[I") ∈ zz_TB := zz_t (zz_3 (List.mem_of_getElem? (i := 130) rfl)) rfl
theorem zw_612 : (Jvm.Cond.laysFinal "PortTranslatorModel" "PortTranslatorModel" "network" "[I") ∈ zz_TB := zz_t (zz_3 (List.mem_of_getElem? (i := 132) rfl)) rfl
theorem zw_614 : (Jvm.Cond.laysFinal "PortTranslatorModel" "PortTranslatorModel" "bits" "[I") ∈ zz_TB := zz_t (zz_3 (List.mem_of_getElem? (i := 134) rfl)) rfl
theorem zw_616 : (Jvm.Cond.laysFinal "PortTranslatorModel" "PortTranslatorModel" "permit" "[Z") ∈ zz_TB := zz_t (zz_3 (List.mem_of_getElem? (i := 136) rfl)) rfl
theorem zw_618 : (Jvm.Cond.lays "PortTranslatorModel" "PortTranslatorModel" "flows" "I") ∈ zz_TB := zz_t (zz_3 (List.mem_of_getElem? (i := 138) rfl)) rfl
theorem zw_620 : (Jvm.Cond.laysFinal "PortTranslatorModel" "PortTranslatorModel" "kind" "[I") ∈ zz_TB := zz_t (zz_3 (List.mem_of_getElem? (i := 140) rfl)) rfl
theorem zw_622 : (Jvm.Cond.laysFinal "PortTranslatorModel" "PortTranslatorModel" "inner" "[I") ∈ zz_TB := zz_t (zz_3 (List.mem_of_getElem? (i := 142) rfl)) rfl
theorem zw_624 : (Jvm.Cond.laysFinal "PortTranslatorModel" "PortTranslatorModel" "innerPort" "[I") ∈ zz_TB := zz_t (zz_3 (List.mem_of_getElem? (i := 144) rfl)) rfl
theorem zw_626 : (Jvm.Cond.laysFinal "PortTranslatorModel" "PortTranslatorModel" "outer" "[I") ∈ zz_TB := zz_t (zz_3 (List.mem_of_getElem? (i := 146) rfl)) rfl
theorem zw_628 : (Jvm.Cond.laysFinal "PortTranslatorModel" "PortTranslatorModel" "outerPort" "[I") ∈ zz_TB := zz_t (zz_3 (List.mem_of_getElem? (i := 148) rfl)) rfl
theorem zw_630 : (Jvm.Cond.laysFinal "PortTranslatorModel" "PortTranslatorModel" "own" "[I") ∈ zz_TB := zz_t (zz_3 (List.mem_of_getElem? (i := 150) rfl)) rfl
theorem zw_632 : (Jvm.Cond.laysFinal "PortTranslatorModel" "PortTranslatorModel" "age" "[I") ∈ zz_TB := zz_t (zz_3 (List.mem_of_getElem? (i := 152) rfl)) rfl
theorem zw_634 : (Jvm.Cond.laysFinal "PortTranslatorModel" "PortTranslatorModel" "flags" "[I") ∈ zz_TB := zz_t (zz_3 (List.mem_of_getElem? (i := 154) rfl)) rfl
theorem zw_636 : (Jvm.Cond.lays "PortTranslatorModel" "PortTranslatorModel" "code" "I") ∈ zz_TB := zz_t (zz_3 (List.mem_of_getElem? (i := 156) rfl)) rfl
theorem zw_638 : (Jvm.Cond.superclass "PortTranslatorModel" "java/lang/Object") ∈ zz_TB := zz_t (zz_3 (List.mem_of_getElem? (i := 158) rfl)) rfl
theorem zw_639 : (Jvm.Cond.arrayClass Jvm.ClassFile.FieldType.boolean) ∈ zz_TB := zz_t (zz_3 (List.mem_of_getElem? (i := 159) rfl)) rfl
theorem zw_640 : (Jvm.Cond.methodLink "PortTranslatorLaw" (62 : Nat) ({ cls := "PortTranslatorModel", name := "thrown", desc := "()I" } : Jvm.MethodName)) ∈ zz_TB := zz_t (zz_3 (List.mem_of_getElem? (i := 160) rfl)) rfl
theorem zw_641 : (Jvm.Cond.instanceMethod ({ cls := "PortTranslatorModel", name := "thrown", desc := "()I" } : Jvm.MethodName)) ∈ zz_TB := zz_t (zz_3 (List.mem_of_getElem? (i := 161) rfl)) rfl
theorem zw_642 : (Jvm.Cond.selects "PortTranslatorModel" ({ cls := "PortTranslatorModel", name := "thrown", desc := "()I" } : Jvm.MethodName) ({ cls := "PortTranslatorModel", name := "thrown", desc := "()I" } : Jvm.MethodName)) ∈ zz_TB := zz_t (zz_3 (List.mem_of_getElem? (i := 162) rfl)) rfl
theorem zw_643 : (Jvm.Cond.code ({ cls := "PortTranslatorModel", name := "thrown", desc := "()I" } : Jvm.MethodName) prog_9_method_2_code (1 : Nat) (Option.some Jvm.ClassFile.FieldType.int)) ∈ zz_TB := zz_t (zz_3 (List.mem_of_getElem? (i := 163) rfl)) rfl
theorem zw_644 : (Jvm.Cond.methodLink "PortTranslatorLaw" (41 : Nat) ({ cls := "PortTranslatorModel", name := "put", desc := "(IJ)Z" } : Jvm.MethodName)) ∈ zz_TB := zz_t (zz_3 (List.mem_of_getElem? (i := 164) rfl)) rfl
theorem zw_645 : (Jvm.Cond.instanceMethod ({ cls := "PortTranslatorModel", name := "put", desc := "(IJ)Z" } : Jvm.MethodName)) ∈ zz_TB := zz_t (zz_3 (List.mem_of_getElem? (i := 165) rfl)) rfl
theorem zw_646 : (Jvm.Cond.selects "PortTranslatorModel" ({ cls := "PortTranslatorModel", name := "put", desc := "(IJ)Z" } : Jvm.MethodName) ({ cls := "PortTranslatorModel", name := "put", desc := "(IJ)Z" } : Jvm.MethodName)) ∈ zz_TB := zz_t (zz_3 (List.mem_of_getElem? (i := 166) rfl)) rfl
theorem zw_647 : (Jvm.Cond.code ({ cls := "PortTranslatorModel", name := "put", desc := "(IJ)Z" } : Jvm.MethodName) prog_9_method_3_code (5 : Nat) (Option.some Jvm.ClassFile.FieldType.boolean)) ∈ zz_TB := zz_t (zz_3 (List.mem_of_getElem? (i := 167) rfl)) rfl
theorem zw_648 : (Jvm.Cond.constantLong "PortTranslatorModel" (60 : Nat) (65535 : Int64)) ∈ zz_TB := zz_t (zz_3 (List.mem_of_getElem? (i := 168) rfl)) rfl
theorem zw_649 : (Jvm.Cond.methodLink "PortTranslatorLaw" (45 : Nat) ({ cls := "PortTranslatorModel", name := "scrap", desc := "()V" } : Jvm.MethodName)) ∈ zz_TB := zz_t (zz_3 (List.mem_of_getElem? (i := 169) rfl)) rfl
theorem zw_650 : (Jvm.Cond.instanceMethod ({ cls := "PortTranslatorModel", name := "scrap", desc := "()V" } : Jvm.MethodName)) ∈ zz_TB := zz_t (zz_3 (List.mem_of_getElem? (i := 170) rfl)) rfl
theorem zw_651 : (Jvm.Cond.selects "PortTranslatorModel" ({ cls := "PortTranslatorModel", name := "scrap", desc := "()V" } : Jvm.MethodName) ({ cls := "PortTranslatorModel", name := "scrap", desc := "()V" } : Jvm.MethodName)) ∈ zz_TB := zz_t (zz_3 (List.mem_of_getElem? (i := 171) rfl)) rfl
theorem zw_652 : (Jvm.Cond.code ({ cls := "PortTranslatorModel", name := "scrap", desc := "()V" } : Jvm.MethodName) prog_9_method_4_code (1 : Nat) (Option.none : Option Jvm.ClassFile.FieldType)) ∈ zz_TB := zz_t (zz_3 (List.mem_of_getElem? (i := 172) rfl)) rfl
theorem zw_653 : (Jvm.Cond.methodLink "PortTranslatorLaw" (50 : Nat) ({ cls := "PortTranslatorModel", name := "route", desc := "(Z)I" } : Jvm.MethodName)) ∈ zz_TB := zz_t (zz_3 (List.mem_of_getElem? (i := 173) rfl)) rfl
theorem zw_654 : (Jvm.Cond.instanceMethod ({ cls := "PortTranslatorModel", name := "route", desc := "(Z)I" } : Jvm.MethodName)) ∈ zz_TB := zz_t (zz_3 (List.mem_of_getElem? (i := 174) rfl)) rfl
theorem zw_655 : (Jvm.Cond.selects "PortTranslatorModel" ({ cls := "PortTranslatorModel", name := "route", desc := "(Z)I" } : Jvm.MethodName) ({ cls := "PortTranslatorModel", name := "route", desc := "(Z)I" } : Jvm.MethodName)) ∈ zz_TB := zz_t (zz_3 (List.mem_of_getElem? (i := 175) rfl)) rfl
theorem zw_656 : (Jvm.Cond.code ({ cls := "PortTranslatorModel", name := "route", desc := "(Z)I" } : Jvm.MethodName) prog_9_method_28_code (5 : Nat) (Option.some Jvm.ClassFile.FieldType.int)) ∈ zz_TB := zz_t (zz_3 (List.mem_of_getElem? (i := 176) rfl)) rfl
theorem zw_657 : (Jvm.Cond.methodLink "PortTranslatorModel" (142 : Nat) ({ cls := "PortTranslatorModel", name := "well", desc := "()Z" } : Jvm.MethodName)) ∈ zz_TB := zz_t (zz_3 (List.mem_of_getElem? (i := 177) rfl)) rfl
theorem zw_659 : (Jvm.Cond.instanceMethod ({ cls := "PortTranslatorModel", name := "well", desc := "()Z" } : Jvm.MethodName)) ∈ zz_TB := zz_t (zz_3 (List.mem_of_getElem? (i := 179) rfl)) rfl
theorem zw_660 : (Jvm.Cond.code ({ cls := "PortTranslatorModel", name := "well", desc := "()Z" } : Jvm.MethodName) prog_9_method_11_code (2 : Nat) (Option.some Jvm.ClassFile.FieldType.boolean)) ∈ zz_TB := zz_t (zz_3 (List.mem_of_getElem? (i := 180) rfl)) rfl
theorem zw_661 : (Jvm.Cond.constant "PortTranslatorModel" (83 : Nat) (49151 : Int32)) ∈ zz_TB := zz_t (zz_3 (List.mem_of_getElem? (i := 181) rfl)) rfl
theorem zw_662 : (Jvm.Cond.methodLink "PortTranslatorModel" (64 : Nat) ({ cls := "PortTranslatorModel", name := "total", desc := "(II)I" } : Jvm.MethodName)) ∈ zz_TB := zz_t (zz_3 (List.mem_of_getElem? (i := 182) rfl)) rfl
theorem zw_664 : (Jvm.Cond.instanceMethod ({ cls := "PortTranslatorModel", name := "total", desc := "(II)I" } : Jvm.MethodName)) ∈ zz_TB := zz_t (zz_3 (List.mem_of_getElem? (i := 184) rfl)) rfl
theorem zw_665 : (Jvm.Cond.code ({ cls := "PortTranslatorModel", name := "total", desc := "(II)I" } : Jvm.MethodName) prog_9_method_6_code (5 : Nat) (Option.some Jvm.ClassFile.FieldType.int)) ∈ zz_TB := zz_t (zz_3 (List.mem_of_getElem? (i := 185) rfl)) rfl
theorem zw_666 : (Jvm.Cond.methodLink "PortTranslatorModel" (72 : Nat) ({ cls := "PortTranslatorModel", name := "fold", desc := "(I)I" } : Jvm.MethodName)) ∈ zz_TB := zz_t (zz_3 (List.mem_of_getElem? (i := 186) rfl)) rfl
theorem zw_667 : (Jvm.Cond.static ({ cls := "PortTranslatorModel", name := "fold", desc := "(I)I" } : Jvm.MethodName)) ∈ zz_TB := zz_t (zz_3 (List.mem_of_getElem? (i := 187) rfl)) rfl
theorem zw_668 : (Jvm.Cond.code ({ cls := "PortTranslatorModel", name := "fold", desc := "(I)I" } : Jvm.MethodName) prog_9_method_5_code (2 : Nat) (Option.some Jvm.ClassFile.FieldType.int)) ∈ zz_TB := zz_t (zz_3 (List.mem_of_getElem? (i := 188) rfl)) rfl
theorem zw_669 : (Jvm.Cond.constant "PortTranslatorModel" (62 : Nat) (65535 : Int32)) ∈ zz_TB := zz_t (zz_3 (List.mem_of_getElem? (i := 189) rfl)) rfl
theorem zw_670 : (Jvm.Cond.constant "PortTranslatorModel" (63 : Nat) (65536 : Int32)) ∈ zz_TB := zz_t (zz_3 (List.mem_of_getElem? (i := 190) rfl)) rfl
theorem zw_671 : (Jvm.Cond.methodLink "PortTranslatorModel" (79 : Nat) ({ cls := "PortTranslatorModel", name := "isKind", desc := "(I)Z" } : Jvm.MethodName)) ∈ zz_TB := zz_t (zz_3 (List.mem_of_getElem? (i := 191) rfl)) rfl
theorem zw_672 : (Jvm.Cond.static ({ cls := "PortTranslatorModel", name := "isKind", desc := "(I)Z" } : Jvm.MethodName)) ∈ zz_TB := zz_t (zz_3 (List.mem_of_getElem? (i := 192) rfl)) rfl
theorem zw_673 : (Jvm.Cond.code ({ cls := "PortTranslatorModel", name := "isKind", desc := "(I)Z" } : Jvm.MethodName) prog_9_method_8_code (1 : Nat) (Option.some Jvm.ClassFile.FieldType.boolean)) ∈ zz_TB := zz_t (zz_3 (List.mem_of_getElem? (i := 193) rfl)) rfl
theorem zw_674 : (Jvm.Cond.methodLink "PortTranslatorModel" (84 : Nat) ({ cls := "PortTranslatorModel", name := "wellBody", desc := "(I)Z" } : Jvm.MethodName)) ∈ zz_TB := zz_t (zz_3 (List.mem_of_getElem? (i := 194) rfl)) rfl
theorem zw_676 : (Jvm.Cond.instanceMethod ({ cls := "PortTranslatorModel", name := "wellBody", desc := "(I)Z" } : Jvm.MethodName)) ∈ zz_TB := zz_t (zz_3 (List.mem_of_getElem? (i := 196) rfl)) rfl
theorem zw_677 : (Jvm.Cond.code ({ cls := "PortTranslatorModel", name := "wellBody", desc := "(I)Z" } : Jvm.MethodName) prog_9_method_10_code (3 : Nat) (Option.some Jvm.ClassFile.FieldType.boolean)) ∈ zz_TB := zz_t (zz_3 (List.mem_of_getElem? (i := 197) rfl)) rfl
theorem zw_678 : (Jvm.Cond.methodLink "PortTranslatorModel" (68 : Nat) ({ cls := "PortTranslatorModel", name := "bodyTotal", desc := "(I)I" } : Jvm.MethodName)) ∈ zz_TB := zz_t (zz_3 (List.mem_of_getElem? (i := 198) rfl)) rfl
theorem zw_680 : (Jvm.Cond.instanceMethod ({ cls := "PortTranslatorModel", name := "bodyTotal", desc := "(I)I" } : Jvm.MethodName)) ∈ zz_TB := zz_t (zz_3 (List.mem_of_getElem? (i := 200) rfl)) rfl
theorem zw_681 : (Jvm.Cond.code ({ cls := "PortTranslatorModel", name := "bodyTotal", desc := "(I)I" } : Jvm.MethodName) prog_9_method_7_code (3 : Nat) (Option.some Jvm.ClassFile.FieldType.int)) ∈ zz_TB := zz_t (zz_3 (List.mem_of_getElem? (i := 201) rfl)) rfl
theorem zw_682 : (Jvm.Cond.methodLink "PortTranslatorModel" (75 : Nat) ({ cls := "PortTranslatorModel", name := "isError", desc := "()Z" } : Jvm.MethodName)) ∈ zz_TB := zz_t (zz_3 (List.mem_of_getElem? (i := 202) rfl)) rfl
theorem zw_684 : (Jvm.Cond.instanceMethod ({ cls := "PortTranslatorModel", name := "isError", desc := "()Z" } : Jvm.MethodName)) ∈ zz_TB := zz_t (zz_3 (List.mem_of_getElem? (i := 204) rfl)) rfl
theorem zw_685 : (Jvm.Cond.code ({ cls := "PortTranslatorModel", name := "isError", desc := "()Z" } : Jvm.MethodName) prog_9_method_9_code (1 : Nat) (Option.some Jvm.ClassFile.FieldType.boolean)) ∈ zz_TB := zz_t (zz_3 (List.mem_of_getElem? (i := 205) rfl)) rfl
theorem zw_686 : (Jvm.Cond.methodLink "PortTranslatorModel" (145 : Nat) ({ cls := "PortTranslatorModel", name := "flowOf", desc := "(Z)I" } : Jvm.MethodName)) ∈ zz_TB := zz_t (zz_3 (List.mem_of_getElem? (i := 206) rfl)) rfl
theorem zw_688 : (Jvm.Cond.instanceMethod ({ cls := "PortTranslatorModel", name := "flowOf", desc := "(Z)I" } : Jvm.MethodName)) ∈ zz_TB := zz_t (zz_3 (List.mem_of_getElem? (i := 208) rfl)) rfl
theorem zw_689 : (Jvm.Cond.code ({ cls := "PortTranslatorModel", name := "flowOf", desc := "(Z)I" } : Jvm.MethodName) prog_9_method_21_code (8 : Nat) (Option.some Jvm.ClassFile.FieldType.int)) ∈ zz_TB := zz_t (zz_3 (List.mem_of_getElem? (i := 209) rfl)) rfl
theorem zw_690 : (Jvm.Cond.methodLink "PortTranslatorModel" (106 : Nat) ({ cls := "PortTranslatorModel", name := "address", desc := "(I)I" } : Jvm.MethodName)) ∈ zz_TB := zz_t (zz_3 (List.mem_of_getElem? (i := 210) rfl)) rfl
theorem zw_692 : (Jvm.Cond.instanceMethod ({ cls := "PortTranslatorModel", name := "address", desc := "(I)I" } : Jvm.MethodName)) ∈ zz_TB := zz_t (zz_3 (List.mem_of_getElem? (i := 212) rfl)) rfl
theorem zw_693 : (Jvm.Cond.code ({ cls := "PortTranslatorModel", name := "address", desc := "(I)I" } : Jvm.MethodName) prog_9_method_12_code (2 : Nat) (Option.some Jvm.ClassFile.FieldType.int)) ∈ zz_TB := zz_t (zz_3 (List.mem_of_getElem? (i := 213) rfl)) rfl
theorem zw_694 : (Jvm.Cond.methodLink "PortTranslatorModel" (89 : Nat) ({ cls := "PortTranslatorModel", name := "isInside", desc := "(I)Z" } : Jvm.MethodName)) ∈ zz_TB := zz_t (zz_3 (List.mem_of_getElem? (i := 214) rfl)) rfl
theorem zw_695 : (Jvm.Cond.static ({ cls := "PortTranslatorModel", name := "isInside", desc := "(I)Z" } : Jvm.MethodName)) ∈ zz_TB := zz_t (zz_3 (List.mem_of_getElem? (i := 215) rfl)) rfl
theorem zw_696 : (Jvm.Cond.code ({ cls := "PortTranslatorModel", name := "isInside", desc := "(I)Z" } : Jvm.MethodName) prog_9_method_13_code (1 : Nat) (Option.some Jvm.ClassFile.FieldType.boolean)) ∈ zz_TB := zz_t (zz_3 (List.mem_of_getElem? (i := 216) rfl)) rfl
theorem zw_697 : (Jvm.Cond.constant "PortTranslatorModel" (87 : Nat) (167772160 : Int32)) ∈ zz_TB := zz_t (zz_3 (List.mem_of_getElem? (i := 217) rfl)) rfl
theorem zw_698 : (Jvm.Cond.constant "PortTranslatorModel" (88 : Nat) (167772415 : Int32)) ∈ zz_TB := zz_t (zz_3 (List.mem_of_getElem? (i := 218) rfl)) rfl
theorem zw_699 : (Jvm.Cond.methodLink "PortTranslatorModel" (113 : Nat) ({ cls := "PortTranslatorModel", name := "isOutside", desc := "(I)Z" } : Jvm.MethodName)) ∈ zz_TB := zz_t (zz_3 (List.mem_of_getElem? (i := 219) rfl)) rfl
theorem zw_700 : (Jvm.Cond.static ({ cls := "PortTranslatorModel", name := "isOutside", desc := "(I)Z" } : Jvm.MethodName)) ∈ zz_TB := zz_t (zz_3 (List.mem_of_getElem? (i := 220) rfl)) rfl
theorem zw_701 : (Jvm.Cond.code ({ cls := "PortTranslatorModel", name := "isOutside", desc := "(I)Z" } : Jvm.MethodName) prog_9_method_14_code (1 : Nat) (Option.some Jvm.ClassFile.FieldType.boolean)) ∈ zz_TB := zz_t (zz_3 (List.mem_of_getElem? (i := 221) rfl)) rfl
theorem zw_702 : (Jvm.Cond.constant "PortTranslatorModel" (92 : Nat) (-969710591 : Int32)) ∈ zz_TB := zz_t (zz_3 (List.mem_of_getElem? (i := 222) rfl)) rfl
theorem zw_703 : (Jvm.Cond.methodLink "PortTranslatorModel" (116 : Nat) ({ cls := "PortTranslatorModel", name := "flowOfError", desc := "(Z)I" } : Jvm.MethodName)) ∈ zz_TB := zz_t (zz_3 (List.mem_of_getElem? (i := 223) rfl)) rfl
theorem zw_705 : (Jvm.Cond.instanceMethod ({ cls := "PortTranslatorModel", name := "flowOfError", desc := "(Z)I" } : Jvm.MethodName)) ∈ zz_TB := zz_t (zz_3 (List.mem_of_getElem? (i := 225) rfl)) rfl
theorem zw_706 : (Jvm.Cond.code ({ cls := "PortTranslatorModel", name := "flowOfError", desc := "(Z)I" } : Jvm.MethodName) prog_9_method_20_code (6 : Nat) (Option.some Jvm.ClassFile.FieldType.int)) ∈ zz_TB := zz_t (zz_3 (List.mem_of_getElem? (i := 226) rfl)) rfl
theorem zw_707 : (Jvm.Cond.methodLink "PortTranslatorModel" (109 : Nat) ({ cls := "PortTranslatorModel", name := "find", desc := "(IIIZII)I" } : Jvm.MethodName)) ∈ zz_TB := zz_t (zz_3 (List.mem_of_getElem? (i := 227) rfl)) rfl
theorem zw_709 : (Jvm.Cond.instanceMethod ({ cls := "PortTranslatorModel", name := "find", desc := "(IIIZII)I" } : Jvm.MethodName)) ∈ zz_TB := zz_t (zz_3 (List.mem_of_getElem? (i := 229) rfl)) rfl
theorem zw_710 : (Jvm.Cond.code ({ cls := "PortTranslatorModel", name := "find", desc := "(IIIZII)I" } : Jvm.MethodName) prog_9_method_15_code (9 : Nat) (Option.some Jvm.ClassFile.FieldType.int)) ∈ zz_TB := zz_t (zz_3 (List.mem_of_getElem? (i := 230) rfl)) rfl
theorem zw_711 : (Jvm.Cond.methodLink "PortTranslatorModel" (120 : Nat) ({ cls := "PortTranslatorModel", name := "begin", desc := "(IIIII)I" } : Jvm.MethodName)) ∈ zz_TB := zz_t (zz_3 (List.mem_of_getElem? (i := 231) rfl)) rfl
theorem zw_713 : (Jvm.Cond.instanceMethod ({ cls := "PortTranslatorModel", name := "begin", desc := "(IIIII)I" } : Jvm.MethodName)) ∈ zz_TB := zz_t (zz_3 (List.mem_of_getElem? (i := 233) rfl)) rfl
theorem zw_714 : (Jvm.Cond.code ({ cls := "PortTranslatorModel", name := "begin", desc := "(IIIII)I" } : Jvm.MethodName) prog_9_method_18_code (8 : Nat) (Option.some Jvm.ClassFile.FieldType.int)) ∈ zz_TB := zz_t (zz_3 (List.mem_of_getElem? (i := 234) rfl)) rfl
theorem zw_715 : (Jvm.Cond.methodLink "PortTranslatorModel" (98 : Nat) ({ cls := "PortTranslatorModel", name := "permitted", desc := "(II)Z" } : Jvm.MethodName)) ∈ zz_TB := zz_t (zz_3 (List.mem_of_getElem? (i := 235) rfl)) rfl
theorem zw_717 : (Jvm.Cond.instanceMethod ({ cls := "PortTranslatorModel", name := "permitted", desc := "(II)Z" } : Jvm.MethodName)) ∈ zz_TB := zz_t (zz_3 (List.mem_of_getElem? (i := 237) rfl)) rfl
theorem zw_718 : (Jvm.Cond.code ({ cls := "PortTranslatorModel", name := "permitted", desc := "(II)Z" } : Jvm.MethodName) prog_9_method_16_code (6 : Nat) (Option.some Jvm.ClassFile.FieldType.boolean)) ∈ zz_TB := zz_t (zz_3 (List.mem_of_getElem? (i := 238) rfl)) rfl
theorem zw_719 : (Jvm.Cond.methodLink "PortTranslatorModel" (102 : Nat) ({ cls := "PortTranslatorModel", name := "portFor", desc := "(III)I" } : Jvm.MethodName)) ∈ zz_TB := zz_t (zz_3 (List.mem_of_getElem? (i := 239) rfl)) rfl
theorem zw_721 : (Jvm.Cond.instanceMethod ({ cls := "PortTranslatorModel", name := "portFor", desc := "(III)I" } : Jvm.MethodName)) ∈ zz_TB := zz_t (zz_4 (List.mem_of_getElem? (i := 1) rfl)) rfl
theorem zw_722 : (Jvm.Cond.code ({ cls := "PortTranslatorModel", name := "portFor", desc := "(III)I" } : Jvm.MethodName) prog_9_method_17_code (8 : Nat) (Option.some Jvm.ClassFile.FieldType.int)) ∈ zz_TB := zz_t (zz_4 (List.mem_of_getElem? (i := 2) rfl)) rfl
theorem zw_723 : (Jvm.Cond.constant "PortTranslatorModel" (96 : Nat) (40005 : Int32)) ∈ zz_TB := zz_t (zz_4 (List.mem_of_getElem? (i := 3) rfl)) rfl
theorem zw_724 : (Jvm.Cond.constant "PortTranslatorModel" (97 : Nat) (40000 : Int32)) ∈ zz_TB := zz_t (zz_4 (List.mem_of_getElem? (i := 4) rfl)) rfl
theorem zw_725 : (Jvm.Cond.methodLink "PortTranslatorModel" (148 : Nat) ({ cls := "PortTranslatorModel", name := "rewrite", desc := "(ZI)V" } : Jvm.MethodName)) ∈ zz_TB := zz_t (zz_4 (List.mem_of_getElem? (i := 5) rfl)) rfl
theorem zw_727 : (Jvm.Cond.instanceMethod ({ cls := "PortTranslatorModel", name := "rewrite", desc := "(ZI)V" } : Jvm.MethodName)) ∈ zz_TB := zz_t (zz_4 (List.mem_of_getElem? (i := 7) rfl)) rfl
theorem zw_728 : (Jvm.Cond.code ({ cls := "PortTranslatorModel", name := "rewrite", desc := "(ZI)V" } : Jvm.MethodName) prog_9_method_26_code (7 : Nat) (Option.none : Option Jvm.ClassFile.FieldType)) ∈ zz_TB := zz_t (zz_4 (List.mem_of_getElem? (i := 8) rfl)) rfl
theorem zw_729 : (Jvm.Cond.methodLink "PortTranslatorModel" (124 : Nat) ({ cls := "PortTranslatorModel", name := "setAddress", desc := "(II)V" } : Jvm.MethodName)) ∈ zz_TB := zz_t (zz_4 (List.mem_of_getElem? (i := 9) rfl)) rfl
theorem zw_731 : (Jvm.Cond.instanceMethod ({ cls := "PortTranslatorModel", name := "setAddress", desc := "(II)V" } : Jvm.MethodName)) ∈ zz_TB := zz_t (zz_4 (List.mem_of_getElem? (i := 11) rfl)) rfl
theorem zw_732 : (Jvm.Cond.code ({ cls := "PortTranslatorModel", name := "setAddress", desc := "(II)V" } : Jvm.MethodName) prog_9_method_22_code (3 : Nat) (Option.none : Option Jvm.ClassFile.FieldType)) ∈ zz_TB := zz_t (zz_4 (List.mem_of_getElem? (i := 12) rfl)) rfl
theorem zw_733 : (Jvm.Cond.methodLink "PortTranslatorModel" (131 : Nat) ({ cls := "PortTranslatorModel", name := "changeOther", desc := "(IIII)V" } : Jvm.MethodName)) ∈ zz_TB := zz_t (zz_4 (List.mem_of_getElem? (i := 13) rfl)) rfl
theorem zw_735 : (Jvm.Cond.instanceMethod ({ cls := "PortTranslatorModel", name := "changeOther", desc := "(IIII)V" } : Jvm.MethodName)) ∈ zz_TB := zz_t (zz_4 (List.mem_of_getElem? (i := 15) rfl)) rfl
theorem zw_736 : (Jvm.Cond.code ({ cls := "PortTranslatorModel", name := "changeOther", desc := "(IIII)V" } : Jvm.MethodName) prog_9_method_24_code (11 : Nat) (Option.none : Option Jvm.ClassFile.FieldType)) ∈ zz_TB := zz_t (zz_4 (List.mem_of_getElem? (i := 16) rfl)) rfl
theorem zw_737 : (Jvm.Cond.methodLink "PortTranslatorModel" (128 : Nat) ({ cls := "PortTranslatorModel", name := "adjusted", desc := "(III)I" } : Jvm.MethodName)) ∈ zz_TB := zz_t (zz_4 (List.mem_of_getElem? (i := 17) rfl)) rfl
theorem zw_738 : (Jvm.Cond.static ({ cls := "PortTranslatorModel", name := "adjusted", desc := "(III)I" } : Jvm.MethodName)) ∈ zz_TB := zz_t (zz_4 (List.mem_of_getElem? (i := 18) rfl)) rfl
theorem zw_739 : (Jvm.Cond.code ({ cls := "PortTranslatorModel", name := "adjusted", desc := "(III)I" } : Jvm.MethodName) prog_9_method_23_code (3 : Nat) (Option.some Jvm.ClassFile.FieldType.int)) ∈ zz_TB := zz_t (zz_4 (List.mem_of_getElem? (i := 19) rfl)) rfl
theorem zw_740 : (Jvm.Cond.methodLink "PortTranslatorModel" (135 : Nat) ({ cls := "PortTranslatorModel", name := "writeSums", desc := "(I)V" } : Jvm.MethodName)) ∈ zz_TB := zz_t (zz_4 (List.mem_of_getElem? (i := 20) rfl)) rfl
theorem zw_742 : (Jvm.Cond.instanceMethod ({ cls := "PortTranslatorModel", name := "writeSums", desc := "(I)V" } : Jvm.MethodName)) ∈ zz_TB := zz_t (zz_4 (List.mem_of_getElem? (i := 22) rfl)) rfl
theorem zw_743 : (Jvm.Cond.code ({ cls := "PortTranslatorModel", name := "writeSums", desc := "(I)V" } : Jvm.MethodName) prog_9_method_25_code (4 : Nat) (Option.none : Option Jvm.ClassFile.FieldType)) ∈ zz_TB := zz_t (zz_4 (List.mem_of_getElem? (i := 23) rfl)) rfl
theorem zw_744 : (Jvm.Cond.methodLink "PortTranslatorModel" (155 : Nat) ({ cls := "PortTranslatorModel", name := "touch", desc := "(ZI)V" } : Jvm.MethodName)) ∈ zz_TB := zz_t (zz_4 (List.mem_of_getElem? (i := 24) rfl)) rfl
theorem zw_746 : (Jvm.Cond.instanceMethod ({ cls := "PortTranslatorModel", name := "touch", desc := "(ZI)V" } : Jvm.MethodName)) ∈ zz_TB := zz_t (zz_4 (List.mem_of_getElem? (i := 26) rfl)) rfl
theorem zw_747 : (Jvm.Cond.code ({ cls := "PortTranslatorModel", name := "touch", desc := "(ZI)V" } : Jvm.MethodName) prog_9_method_27_code (4 : Nat) (Option.none : Option Jvm.ClassFile.FieldType)) ∈ zz_TB := zz_t (zz_4 (List.mem_of_getElem? (i := 27) rfl)) rfl
theorem zw_748 : (Jvm.Cond.methodLink "PortTranslatorModel" (139 : Nat) ({ cls := "PortTranslatorModel", name := "end", desc := "(I)V" } : Jvm.MethodName)) ∈ zz_TB := zz_t (zz_4 (List.mem_of_getElem? (i := 28) rfl)) rfl
theorem zw_750 : (Jvm.Cond.instanceMethod ({ cls := "PortTranslatorModel", name := "end", desc := "(I)V" } : Jvm.MethodName)) ∈ zz_TB := zz_t (zz_4 (List.mem_of_getElem? (i := 30) rfl)) rfl
theorem zw_751 : (Jvm.Cond.code ({ cls := "PortTranslatorModel", name := "end", desc := "(I)V" } : Jvm.MethodName) prog_9_method_19_code (3 : Nat) (Option.none : Option Jvm.ClassFile.FieldType)) ∈ zz_TB := zz_t (zz_4 (List.mem_of_getElem? (i := 31) rfl)) rfl
theorem zw_752 : (Jvm.Cond.methodLink "PortTranslatorLaw" (55 : Nat) ({ cls := "PortTranslatorModel", name := "length", desc := "()I" } : Jvm.MethodName)) ∈ zz_TB := zz_t (zz_4 (List.mem_of_getElem? (i := 32) rfl)) rfl
theorem zw_753 : (Jvm.Cond.instanceMethod ({ cls := "PortTranslatorModel", name := "length", desc := "()I" } : Jvm.MethodName)) ∈ zz_TB := zz_t (zz_4 (List.mem_of_getElem? (i := 33) rfl)) rfl
theorem zw_754 : (Jvm.Cond.selects "PortTranslatorModel" ({ cls := "PortTranslatorModel", name := "length", desc := "()I" } : Jvm.MethodName) ({ cls := "PortTranslatorModel", name := "length", desc := "()I" } : Jvm.MethodName)) ∈ zz_TB := zz_t (zz_4 (List.mem_of_getElem? (i := 34) rfl)) rfl
theorem zw_755 : (Jvm.Cond.code ({ cls := "PortTranslatorModel", name := "length", desc := "()I" } : Jvm.MethodName) prog_9_method_29_code (1 : Nat) (Option.some Jvm.ClassFile.FieldType.int)) ∈ zz_TB := zz_t (zz_4 (List.mem_of_getElem? (i := 35) rfl)) rfl
theorem zw_756 : (Jvm.Cond.methodLink "PortTranslatorLaw" (61 : Nat) ({ cls := "PortTranslatorModel", name := "at", desc := "(I)I" } : Jvm.MethodName)) ∈ zz_TB := zz_t (zz_4 (List.mem_of_getElem? (i := 36) rfl)) rfl
theorem zw_757 : (Jvm.Cond.instanceMethod ({ cls := "PortTranslatorModel", name := "at", desc := "(I)I" } : Jvm.MethodName)) ∈ zz_TB := zz_t (zz_4 (List.mem_of_getElem? (i := 37) rfl)) rfl
theorem zw_758 : (Jvm.Cond.selects "PortTranslatorModel" ({ cls := "PortTranslatorModel", name := "at", desc := "(I)I" } : Jvm.MethodName) ({ cls := "PortTranslatorModel", name := "at", desc := "(I)I" } : Jvm.MethodName)) ∈ zz_TB := zz_t (zz_4 (List.mem_of_getElem? (i := 38) rfl)) rfl
theorem zw_759 : (Jvm.Cond.code ({ cls := "PortTranslatorModel", name := "at", desc := "(I)I" } : Jvm.MethodName) prog_9_method_30_code (2 : Nat) (Option.some Jvm.ClassFile.FieldType.int)) ∈ zz_TB := zz_t (zz_4 (List.mem_of_getElem? (i := 39) rfl)) rfl
theorem zw_760 : (Jvm.Cond.methodLink "PortTranslatorLaw" (67 : Nat) ({ cls := "PortTranslatorModel", name := "tick", desc := "(I)I" } : Jvm.MethodName)) ∈ zz_TB := zz_t (zz_4 (List.mem_of_getElem? (i := 40) rfl)) rfl
theorem zw_761 : (Jvm.Cond.instanceMethod ({ cls := "PortTranslatorModel", name := "tick", desc := "(I)I" } : Jvm.MethodName)) ∈ zz_TB := zz_t (zz_4 (List.mem_of_getElem? (i := 41) rfl)) rfl
theorem zw_762 : (Jvm.Cond.selects "PortTranslatorModel" ({ cls := "PortTranslatorModel", name := "tick", desc := "(I)I" } : Jvm.MethodName) ({ cls := "PortTranslatorModel", name := "tick", desc := "(I)I" } : Jvm.MethodName)) ∈ zz_TB := zz_t (zz_4 (List.mem_of_getElem? (i := 42) rfl)) rfl
theorem zw_763 : (Jvm.Cond.code ({ cls := "PortTranslatorModel", name := "tick", desc := "(I)I" } : Jvm.MethodName) prog_9_method_32_code (4 : Nat) (Option.some Jvm.ClassFile.FieldType.int)) ∈ zz_TB := zz_t (zz_4 (List.mem_of_getElem? (i := 43) rfl)) rfl
theorem zw_764 : (Jvm.Cond.methodLink "PortTranslatorModel" (158 : Nat) ({ cls := "PortTranslatorModel", name := "life", desc := "(I)I" } : Jvm.MethodName)) ∈ zz_TB := zz_t (zz_4 (List.mem_of_getElem? (i := 44) rfl)) rfl
theorem zw_766 : (Jvm.Cond.instanceMethod ({ cls := "PortTranslatorModel", name := "life", desc := "(I)I" } : Jvm.MethodName)) ∈ zz_TB := zz_t (zz_4 (List.mem_of_getElem? (i := 46) rfl)) rfl
theorem zw_767 : (Jvm.Cond.code ({ cls := "PortTranslatorModel", name := "life", desc := "(I)I" } : Jvm.MethodName) prog_9_method_31_code (2 : Nat) (Option.some Jvm.ClassFile.FieldType.int)) ∈ zz_TB := zz_t (zz_4 (List.mem_of_getElem? (i := 47) rfl)) rfl
theorem zw_768 : (Jvm.Cond.methodLink "PortTranslatorLaw" (71 : Nat) ({ cls := "PortTranslatorModel", name := "rule", desc := "(IIIIZ)I" } : Jvm.MethodName)) ∈ zz_TB := zz_t (zz_4 (List.mem_of_getElem? (i := 48) rfl)) rfl
theorem zw_769 : (Jvm.Cond.instanceMethod ({ cls := "PortTranslatorModel", name := "rule", desc := "(IIIIZ)I" } : Jvm.MethodName)) ∈ zz_TB := zz_t (zz_4 (List.mem_of_getElem? (i := 49) rfl)) rfl
theorem zw_770 : (Jvm.Cond.selects "PortTranslatorModel" ({ cls := "PortTranslatorModel", name := "rule", desc := "(IIIIZ)I" } : Jvm.MethodName) ({ cls := "PortTranslatorModel", name := "rule", desc := "(IIIIZ)I" } : Jvm.MethodName)) ∈ zz_TB := zz_t (zz_4 (List.mem_of_getElem? (i := 50) rfl)) rfl
theorem zw_771 : (Jvm.Cond.code ({ cls := "PortTranslatorModel", name := "rule", desc := "(IIIIZ)I" } : Jvm.MethodName) prog_9_method_34_code (6 : Nat) (Option.some Jvm.ClassFile.FieldType.int)) ∈ zz_TB := zz_t (zz_4 (List.mem_of_getElem? (i := 51) rfl)) rfl
theorem zw_772 : (Jvm.Cond.methodLink "PortTranslatorModel" (161 : Nat) ({ cls := "PortTranslatorModel", name := "rules", desc := "()I" } : Jvm.MethodName)) ∈ zz_TB := zz_t (zz_4 (List.mem_of_getElem? (i := 52) rfl)) rfl
theorem zw_774 : (Jvm.Cond.instanceMethod ({ cls := "PortTranslatorModel", name := "rules", desc := "()I" } : Jvm.MethodName)) ∈ zz_TB := zz_t (zz_4 (List.mem_of_getElem? (i := 54) rfl)) rfl
theorem zw_775 : (Jvm.Cond.code ({ cls := "PortTranslatorModel", name := "rules", desc := "()I" } : Jvm.MethodName) prog_9_method_33_code (3 : Nat) (Option.some Jvm.ClassFile.FieldType.int)) ∈ zz_TB := zz_t (zz_4 (List.mem_of_getElem? (i := 55) rfl)) rfl
theorem zw_776 : (Jvm.Cond.methodLink "PortTranslatorLaw" (74 : Nat) ({ cls := "PortTranslatorModel", name := "forget", desc := "(I)I" } : Jvm.MethodName)) ∈ zz_TB := zz_t (zz_4 (List.mem_of_getElem? (i := 56) rfl)) rfl
theorem zw_777 : (Jvm.Cond.instanceMethod ({ cls := "PortTranslatorModel", name := "forget", desc := "(I)I" } : Jvm.MethodName)) ∈ zz_TB := zz_t (zz_4 (List.mem_of_getElem? (i := 57) rfl)) rfl
theorem zw_778 : (Jvm.Cond.selects "PortTranslatorModel" ({ cls := "PortTranslatorModel", name := "forget", desc := "(I)I" } : Jvm.MethodName) ({ cls := "PortTranslatorModel", name := "forget", desc := "(I)I" } : Jvm.MethodName)) ∈ zz_TB := zz_t (zz_4 (List.mem_of_getElem? (i := 58) rfl)) rfl
theorem zw_779 : (Jvm.Cond.code ({ cls := "PortTranslatorModel", name := "forget", desc := "(I)I" } : Jvm.MethodName) prog_9_method_35_code (2 : Nat) (Option.some Jvm.ClassFile.FieldType.int)) ∈ zz_TB := zz_t (zz_4 (List.mem_of_getElem? (i := 59) rfl)) rfl
theorem zw_780 : (Jvm.Cond.methodLink "PortTranslatorLaw" (78 : Nat) ({ cls := "PortTranslatorModel", name := "flows", desc := "()I" } : Jvm.MethodName)) ∈ zz_TB := zz_t (zz_4 (List.mem_of_getElem? (i := 60) rfl)) rfl
theorem zw_781 : (Jvm.Cond.instanceMethod ({ cls := "PortTranslatorModel", name := "flows", desc := "()I" } : Jvm.MethodName)) ∈ zz_TB := zz_t (zz_4 (List.mem_of_getElem? (i := 61) rfl)) rfl
theorem zw_782 : (Jvm.Cond.selects "PortTranslatorModel" ({ cls := "PortTranslatorModel", name := "flows", desc := "()I" } : Jvm.MethodName) ({ cls := "PortTranslatorModel", name := "flows", desc := "()I" } : Jvm.MethodName)) ∈ zz_TB := zz_t (zz_4 (List.mem_of_getElem? (i := 62) rfl)) rfl
theorem zw_783 : (Jvm.Cond.code ({ cls := "PortTranslatorModel", name := "flows", desc := "()I" } : Jvm.MethodName) prog_9_method_36_code (1 : Nat) (Option.some Jvm.ClassFile.FieldType.int)) ∈ zz_TB := zz_t (zz_4 (List.mem_of_getElem? (i := 63) rfl)) rfl
theorem zw_784 : (Jvm.Cond.methodLink "PortTranslatorLaw" (82 : Nat) ({ cls := "PortTranslatorModel", name := "flow", desc := "(II)I" } : Jvm.MethodName)) ∈ zz_TB := zz_t (zz_4 (List.mem_of_getElem? (i := 64) rfl)) rfl
theorem zw_785 : (Jvm.Cond.instanceMethod ({ cls := "PortTranslatorModel", name := "flow", desc := "(II)I" } : Jvm.MethodName)) ∈ zz_TB := zz_t (zz_4 (List.mem_of_getElem? (i := 65) rfl)) rfl
theorem zw_786 : (Jvm.Cond.selects "PortTranslatorModel" ({ cls := "PortTranslatorModel", name := "flow", desc := "(II)I" } : Jvm.MethodName) ({ cls := "PortTranslatorModel", name := "flow", desc := "(II)I" } : Jvm.MethodName)) ∈ zz_TB := zz_t (zz_4 (List.mem_of_getElem? (i := 66) rfl)) rfl
theorem zw_787 : (Jvm.Cond.code ({ cls := "PortTranslatorModel", name := "flow", desc := "(II)I" } : Jvm.MethodName) prog_9_method_37_code (3 : Nat) (Option.some Jvm.ClassFile.FieldType.int)) ∈ zz_TB := zz_t (zz_4 (List.mem_of_getElem? (i := 67) rfl)) rfl
theorem zw_788 : (Jvm.Cond.methodLink "PortTranslatorLaw" (86 : Nat) ({ cls := "PortTranslatorModel", name := "bindings", desc := "(I)I" } : Jvm.MethodName)) ∈ zz_TB := zz_t (zz_4 (List.mem_of_getElem? (i := 68) rfl)) rfl
theorem zw_789 : (Jvm.Cond.instanceMethod ({ cls := "PortTranslatorModel", name := "bindings", desc := "(I)I" } : Jvm.MethodName)) ∈ zz_TB := zz_t (zz_4 (List.mem_of_getElem? (i := 69) rfl)) rfl
theorem zw_790 : (Jvm.Cond.selects "PortTranslatorModel" ({ cls := "PortTranslatorModel", name := "bindings", desc := "(I)I" } : Jvm.MethodName) ({ cls := "PortTranslatorModel", name := "bindings", desc := "(I)I" } : Jvm.MethodName)) ∈ zz_TB := zz_t (zz_4 (List.mem_of_getElem? (i := 70) rfl)) rfl
theorem zw_791 : (Jvm.Cond.code ({ cls := "PortTranslatorModel", name := "bindings", desc := "(I)I" } : Jvm.MethodName) prog_9_method_38_code (6 : Nat) (Option.some Jvm.ClassFile.FieldType.int)) ∈ zz_TB := zz_t (zz_4 (List.mem_of_getElem? (i := 71) rfl)) rfl
theorem zw_792 : (Jvm.Cond.constantLong "PortTranslatorLaw" (35 : Nat) (4294967295 : Int64)) ∈ zz_TB := zz_t (zz_4 (List.mem_of_getElem? (i := 72) rfl)) rfl
theorem zw_793 : (Jvm.Cond.arrayClass Jvm.ClassFile.FieldType.long) ∈ zz_TB := zz_t (zz_4 (List.mem_of_getElem? (i := 73) rfl)) rfl
theorem zw_794 : (Jvm.Cond.sameMethod "java/lang/Throwable" "java/lang/Throwable" "fillInStackTrace" "(I)Ljava/lang/Throwable;") ∈ zz_TB := zz_t (zz_4 (List.mem_of_getElem? (i := 74) rfl)) rfl
theorem zs_0 : Cond.selects "PortTranslator" ⟨"PortTranslator", "judgeDraft", "()I"⟩ ⟨"PortTranslator", "judgeDraft", "()I"⟩ ∈ zz_TB := zz_s (List.mem_of_getElem? (i := 0) rfl) rfl
theorem zs_1 : Cond.selects "PortTranslator$Packet" ⟨"PortTranslator$Packet", "total", "(II)I"⟩ ⟨"PortTranslator$Packet", "total", "(II)I"⟩ ∈ zz_TB := zz_s (List.mem_of_getElem? (i := 1) rfl) rfl
theorem zs_2 : Cond.selects "PortTranslator$Packet" ⟨"PortTranslator$Packet", "bodyAgrees", "()Z"⟩ ⟨"PortTranslator$Packet", "bodyAgrees", "()Z"⟩ ∈ zz_TB := zz_s (List.mem_of_getElem? (i := 2) rfl) rfl
theorem zs_3 : Cond.selects "PortTranslator$Packet" ⟨"PortTranslator$Packet", "bodyTotal", "()I"⟩ ⟨"PortTranslator$Packet", "bodyTotal", "()I"⟩ ∈ zz_TB := zz_s (List.mem_of_getElem? (i := 3) rfl) rfl
theorem zs_4 : Cond.selects "PortTranslator$Packet" ⟨"PortTranslator$Packet", "hasOtherPacket", "()Z"⟩ ⟨"PortTranslator$Packet", "hasOtherPacket", "()Z"⟩ ∈ zz_TB := zz_s (List.mem_of_getElem? (i := 4) rfl) rfl
theorem zs_5 : Cond.selects "PortTranslator" ⟨"PortTranslator", "sendOut", "()I"⟩ ⟨"PortTranslator", "sendOut", "()I"⟩ ∈ zz_TB := zz_s (List.mem_of_getElem? (i := 5) rfl) rfl
theorem zs_6 : Cond.selects "PortTranslator" ⟨"PortTranslator", "mayBeginFlow", "()Z"⟩ ⟨"PortTranslator", "mayBeginFlow", "()Z"⟩ ∈ zz_TB := zz_s (List.mem_of_getElem? (i := 6) rfl) rfl
theorem zs_7 : Cond.selects "PortTranslator$Rule" ⟨"PortTranslator$Rule", "holds", "(I)Z"⟩ ⟨"PortTranslator$Rule", "holds", "(I)Z"⟩ ∈ zz_TB := zz_s (List.mem_of_getElem? (i := 7) rfl) rfl
theorem zs_8 : Cond.selects "PortTranslator$FlowTable" ⟨"PortTranslator$FlowTable", "binding", "(LPortTranslator$Subject;)I"⟩ ⟨"PortTranslator$FlowTable", "binding", "(LPortTranslator$Subject;)I"⟩ ∈ zz_TB := zz_s (List.mem_of_getElem? (i := 8) rfl) rfl
theorem zs_9 : Cond.selects "PortTranslator$FlowTable" ⟨"PortTranslator$FlowTable", "leastFreePort", "(I)I"⟩ ⟨"PortTranslator$FlowTable", "leastFreePort", "(I)I"⟩ ∈ zz_TB := zz_s (List.mem_of_getElem? (i := 9) rfl) rfl
theorem zs_10 : Cond.selects "PortTranslator$FlowTable" ⟨"PortTranslator$FlowTable", "isTaken", "(II)Z"⟩ ⟨"PortTranslator$FlowTable", "isTaken", "(II)Z"⟩ ∈ zz_TB := zz_s (List.mem_of_getElem? (i := 10) rfl) rfl
theorem zs_11 : Cond.selects "PortTranslator" ⟨"PortTranslator", "translate", "(III)V"⟩ ⟨"PortTranslator", "translate", "(III)V"⟩ ∈ zz_TB := zz_s (List.mem_of_getElem? (i := 11) rfl) rfl
theorem zs_12 : Cond.selects "PortTranslator$Packet" ⟨"PortTranslator$Packet", "adjust", "(II)V"⟩ ⟨"PortTranslator$Packet", "adjust", "(II)V"⟩ ∈ zz_TB := zz_s (List.mem_of_getElem? (i := 12) rfl) rfl
theorem zs_13 : Cond.selects "PortTranslator" ⟨"PortTranslator", "note", "(LPortTranslator$Flow;Z)V"⟩ ⟨"PortTranslator", "note", "(LPortTranslator$Flow;Z)V"⟩ ∈ zz_TB := zz_s (List.mem_of_getElem? (i := 13) rfl) rfl
theorem zs_14 : Cond.selects "PortTranslator$FlowTable" ⟨"PortTranslator$FlowTable", "endAt", "(I)V"⟩ ⟨"PortTranslator$FlowTable", "endAt", "(I)V"⟩ ∈ zz_TB := zz_s (List.mem_of_getElem? (i := 14) rfl) rfl
theorem zs_15 : Cond.selects "PortTranslator" ⟨"PortTranslator", "letIn", "()I"⟩ ⟨"PortTranslator", "letIn", "()I"⟩ ∈ zz_TB := zz_s (List.mem_of_getElem? (i := 15) rfl) rfl
theorem zs_16 : Cond.selects "PortTranslator$Packet" ⟨"PortTranslator$Packet", "writeBodyChecksum", "(I)V"⟩ ⟨"PortTranslator$Packet", "writeBodyChecksum", "(I)V"⟩ ∈ zz_TB := zz_s (List.mem_of_getElem? (i := 16) rfl) rfl
theorem zs_17 : Cond.selects "java/lang/Throwable" ⟨"java/lang/Throwable", "fillInStackTrace", "(I)Ljava/lang/Throwable;"⟩ ⟨"java/lang/Throwable", "fillInStackTrace", "(I)Ljava/lang/Throwable;"⟩ ∈ zz_TB := zz_s (List.mem_of_getElem? (i := 17) rfl) rfl
theorem zs_18 : Cond.selects "PortTranslator$Flow" ⟨"PortTranslator$Flow", "life", "()I"⟩ ⟨"PortTranslator$Flow", "life", "()I"⟩ ∈ zz_TB := zz_s (List.mem_of_getElem? (i := 18) rfl) rfl
theorem zs_19 : Cond.selects "PortTranslatorModel" ⟨"PortTranslatorModel", "well", "()Z"⟩ ⟨"PortTranslatorModel", "well", "()Z"⟩ ∈ zz_TB := zz_s (List.mem_of_getElem? (i := 19) rfl) rfl
theorem zs_20 : Cond.selects "PortTranslatorModel" ⟨"PortTranslatorModel", "total", "(II)I"⟩ ⟨"PortTranslatorModel", "total", "(II)I"⟩ ∈ zz_TB := zz_s (List.mem_of_getElem? (i := 20) rfl) rfl
theorem zs_21 : Cond.selects "PortTranslatorModel" ⟨"PortTranslatorModel", "wellBody", "(I)Z"⟩ ⟨"PortTranslatorModel", "wellBody", "(I)Z"⟩ ∈ zz_TB := zz_s (List.mem_of_getElem? (i := 21) rfl) rfl
theorem zs_22 : Cond.selects "PortTranslatorModel" ⟨"PortTranslatorModel", "bodyTotal", "(I)I"⟩ ⟨"PortTranslatorModel", "bodyTotal", "(I)I"⟩ ∈ zz_TB := zz_s (List.mem_of_getElem? (i := 22) rfl) rfl
theorem zs_23 : Cond.selects "PortTranslatorModel" ⟨"PortTranslatorModel", "isError", "()Z"⟩ ⟨"PortTranslatorModel", "isError", "()Z"⟩ ∈ zz_TB := zz_s (List.mem_of_getElem? (i := 23) rfl) rfl
theorem zs_24 : Cond.selects "PortTranslatorModel" ⟨"PortTranslatorModel", "flowOf", "(Z)I"⟩ ⟨"PortTranslatorModel", "flowOf", "(Z)I"⟩ ∈ zz_TB := zz_s (List.mem_of_getElem? (i := 24) rfl) rfl
theorem zs_25 : Cond.selects "PortTranslatorModel" ⟨"PortTranslatorModel", "address", "(I)I"⟩ ⟨"PortTranslatorModel", "address", "(I)I"⟩ ∈ zz_TB := zz_s (List.mem_of_getElem? (i := 25) rfl) rfl
theorem zs_26 : Cond.selects "PortTranslatorModel" ⟨"PortTranslatorModel", "flowOfError", "(Z)I"⟩ ⟨"PortTranslatorModel", "flowOfError", "(Z)I"⟩ ∈ zz_TB := zz_s (List.mem_of_getElem? (i := 26) rfl) rfl
theorem zs_27 : Cond.selects "PortTranslatorModel" ⟨"PortTranslatorModel", "find", "(IIIZII)I"⟩ ⟨"PortTranslatorModel", "find", "(IIIZII)I"⟩ ∈ zz_TB := zz_s (List.mem_of_getElem? (i := 27) rfl) rfl
theorem zs_28 : Cond.selects "PortTranslatorModel" ⟨"PortTranslatorModel", "begin", "(IIIII)I"⟩ ⟨"PortTranslatorModel", "begin", "(IIIII)I"⟩ ∈ zz_TB := zz_s (List.mem_of_getElem? (i := 28) rfl) rfl
theorem zs_29 : Cond.selects "PortTranslatorModel" ⟨"PortTranslatorModel", "permitted", "(II)Z"⟩ ⟨"PortTranslatorModel", "permitted", "(II)Z"⟩ ∈ zz_TB := zz_s (List.mem_of_getElem? (i := 29) rfl) rfl
theorem zs_30 : Cond.selects "PortTranslatorModel" ⟨"PortTranslatorModel", "portFor", "(III)I"⟩ ⟨"PortTranslatorModel", "portFor", "(III)I"⟩ ∈ zz_TB := zz_s (List.mem_of_getElem? (i := 30) rfl) rfl
theorem zs_31 : Cond.selects "PortTranslatorModel" ⟨"PortTranslatorModel", "rewrite", "(ZI)V"⟩ ⟨"PortTranslatorModel", "rewrite", "(ZI)V"⟩ ∈ zz_TB := zz_s (List.mem_of_getElem? (i := 31) rfl) rfl
theorem zs_32 : Cond.selects "PortTranslatorModel" ⟨"PortTranslatorModel", "setAddress", "(II)V"⟩ ⟨"PortTranslatorModel", "setAddress", "(II)V"⟩ ∈ zz_TB := zz_s (List.mem_of_getElem? (i := 32) rfl) rfl
theorem zs_33 : Cond.selects "PortTranslatorModel" ⟨"PortTranslatorModel", "changeOther", "(IIII)V"⟩ ⟨"PortTranslatorModel", "changeOther", "(IIII)V"⟩ ∈ zz_TB := zz_s (List.mem_of_getElem? (i := 33) rfl) rfl
theorem zs_34 : Cond.selects "PortTranslatorModel" ⟨"PortTranslatorModel", "writeSums", "(I)V"⟩ ⟨"PortTranslatorModel", "writeSums", "(I)V"⟩ ∈ zz_TB := zz_s (List.mem_of_getElem? (i := 34) rfl) rfl
theorem zs_35 : Cond.selects "PortTranslatorModel" ⟨"PortTranslatorModel", "touch", "(ZI)V"⟩ ⟨"PortTranslatorModel", "touch", "(ZI)V"⟩ ∈ zz_TB := zz_s (List.mem_of_getElem? (i := 35) rfl) rfl
theorem zs_36 : Cond.selects "PortTranslatorModel" ⟨"PortTranslatorModel", "end", "(I)V"⟩ ⟨"PortTranslatorModel", "end", "(I)V"⟩ ∈ zz_TB := zz_s (List.mem_of_getElem? (i := 36) rfl) rfl
theorem zs_37 : Cond.selects "PortTranslatorModel" ⟨"PortTranslatorModel", "life", "(I)I"⟩ ⟨"PortTranslatorModel", "life", "(I)I"⟩ ∈ zz_TB := zz_s (List.mem_of_getElem? (i := 37) rfl) rfl
theorem zs_38 : Cond.selects "PortTranslatorModel" ⟨"PortTranslatorModel", "rules", "()I"⟩ ⟨"PortTranslatorModel", "rules", "()I"⟩ ∈ zz_TB := zz_s (List.mem_of_getElem? (i := 38) rfl) rfl
end
section
def zr_PT : String := "PortTranslator"
def zt_PT : u_T := fun k => match k with
  | 0 => ("PortTranslator", "draft", "LPortTranslator$Packet;", true)
  | 1 => ("PortTranslator", "latest", "LPortTranslator$Packet;", true)
  | 2 => ("PortTranslator", "subject", "LPortTranslator$Subject;", true)
  | 3 => ("PortTranslator", "table", "LPortTranslator$FlowTable;", true)
  | _ => ("PortTranslator", "permissions", "LPortTranslator$RuleList;", true)
def zf_PT : Nat → FieldType := fun k => match k with
  | 0 => .object "PortTranslator$Packet"
  | 1 => .object "PortTranslator$Packet"
  | 2 => .object "PortTranslator$Subject"
  | 3 => .object "PortTranslator$FlowTable"
  | _ => .object "PortTranslator$RuleList"
theorem zn_PT : ∀ a, a < 5 → ∀ b, b < 5 → a ≠ b → (zt_PT a).2.1 ≠ (zt_PT b).2.1 := by decide +kernel
theorem zo_PT : ∀ k, k < 5 → parseFieldDescriptor (zt_PT k).2.2.1 = some (zf_PT k) := by decide +kernel
theorem zi_PT : ∀ w ∈ u_ws zr_PT zt_PT 5, w ∈ zz_TB := List.forall_mem_cons.mpr ⟨zw_179, List.forall_mem_cons.mpr ⟨zw_181, List.forall_mem_cons.mpr ⟨zw_183, List.forall_mem_cons.mpr ⟨zw_185, List.forall_mem_cons.mpr ⟨zw_187, fun _ h => absurd h List.not_mem_nil⟩⟩⟩⟩⟩
def zr_PK : String := "PortTranslator$Packet"
def zt_PK : u_T := fun k => match k with
  | 0 => ("PortTranslator$Packet", "words", "[I", true)
  | _ => ("PortTranslator$Packet", "size", "I", false)
def zf_PK : Nat → FieldType := fun k => match k with
  | 0 => .array (.int)
  | _ => .int
theorem zn_PK : ∀ a, a < 2 → ∀ b, b < 2 → a ≠ b → (zt_PK a).2.1 ≠ (zt_PK b).2.1 := by decide +kernel
theorem zo_PK : ∀ k, k < 2 → parseFieldDescriptor (zt_PK k).2.2.1 = some (zf_PK k) := by decide +kernel
theorem zi_PK : ∀ w ∈ u_ws zr_PK zt_PK 2, w ∈ zz_TB := List.forall_mem_cons.mpr ⟨zw_34, List.forall_mem_cons.mpr ⟨zw_36, fun _ h => absurd h List.not_mem_nil⟩⟩
def zr_SU : String := "PortTranslator$Subject"
def zt_SU : u_T := fun k => match k with
  | 0 => ("PortTranslator$Subject", "kind", "I", false)
  | 1 => ("PortTranslator$Subject", "nearAddress", "I", false)
  | 2 => ("PortTranslator$Subject", "nearPort", "I", false)
  | 3 => ("PortTranslator$Subject", "farAddress", "I", false)
  | 4 => ("PortTranslator$Subject", "farPort", "I", false)
  | 5 => ("PortTranslator$Subject", "nearAddressIndex", "I", false)
  | _ => ("PortTranslator$Subject", "nearPortIndex", "I", false)
def zf_SU : Nat → FieldType := fun k => match k with
  | 0 => .int
  | 1 => .int
  | 2 => .int
  | 3 => .int
  | 4 => .int
  | 5 => .int
  | _ => .int
theorem zn_SU : ∀ a, a < 7 → ∀ b, b < 7 → a ≠ b → (zt_SU a).2.1 ≠ (zt_SU b).2.1 := by decide +kernel
theorem zo_SU : ∀ k, k < 7 → parseFieldDescriptor (zt_SU k).2.2.1 = some (zf_SU k) := by decide +kernel
theorem zi_SU : ∀ w ∈ u_ws zr_SU zt_SU 7, w ∈ zz_TB := List.forall_mem_cons.mpr ⟨zw_63, List.forall_mem_cons.mpr ⟨zw_65, List.forall_mem_cons.mpr ⟨zw_67, List.forall_mem_cons.mpr ⟨zw_69, List.forall_mem_cons.mpr ⟨zw_71, List.forall_mem_cons.mpr ⟨zw_73, List.forall_mem_cons.mpr ⟨zw_75, fun _ h => absurd h List.not_mem_nil⟩⟩⟩⟩⟩⟩⟩
def zr_FT : String := "PortTranslator$FlowTable"
def zt_FT : u_T := fun k => match k with
  | 0 => ("PortTranslator$FlowTable", "rows", "[LPortTranslator$Flow;", true)
  | _ => ("PortTranslator$FlowTable", "count", "I", false)
def zf_FT : Nat → FieldType := fun k => match k with
  | 0 => .array (.object "PortTranslator$Flow")
  | _ => .int
theorem zn_FT : ∀ a, a < 2 → ∀ b, b < 2 → a ≠ b → (zt_FT a).2.1 ≠ (zt_FT b).2.1 := by decide +kernel
theorem zo_FT : ∀ k, k < 2 → parseFieldDescriptor (zt_FT k).2.2.1 = some (zf_FT k) := by decide +kernel
theorem zi_FT : ∀ w ∈ u_ws zr_FT zt_FT 2, w ∈ zz_TB := List.forall_mem_cons.mpr ⟨zw_132, List.forall_mem_cons.mpr ⟨zw_134, fun _ h => absurd h List.not_mem_nil⟩⟩
def zr_FL : String := "PortTranslator$Flow"
def zt_FL : u_T := fun k => match k with
  | 0 => ("PortTranslator$Flow", "kind", "I", false)
  | 1 => ("PortTranslator$Flow", "innerAddress", "I", false)
  | 2 => ("PortTranslator$Flow", "innerPort", "I", false)
  | 3 => ("PortTranslator$Flow", "outerAddress", "I", false)
  | 4 => ("PortTranslator$Flow", "outerPort", "I", false)
  | 5 => ("PortTranslator$Flow", "ownPort", "I", false)
  | 6 => ("PortTranslator$Flow", "age", "I", false)
  | 7 => ("PortTranslator$Flow", "synCameBack", "Z", false)
  | 8 => ("PortTranslator$Flow", "finWentOut", "Z", false)
  | _ => ("PortTranslator$Flow", "finCameIn", "Z", false)
def zf_FL : Nat → FieldType := fun k => match k with
  | 0 => .int
  | 1 => .int
  | 2 => .int
  | 3 => .int
  | 4 => .int
  | 5 => .int
  | 6 => .int
  | 7 => .boolean
  | 8 => .boolean
  | _ => .boolean
theorem zn_FL : ∀ a, a < 10 → ∀ b, b < 10 → a ≠ b → (zt_FL a).2.1 ≠ (zt_FL b).2.1 := by decide +kernel
theorem zo_FL : ∀ k, k < 10 → parseFieldDescriptor (zt_FL k).2.2.1 = some (zf_FL k) := by decide +kernel
theorem zi_FL : ∀ w ∈ u_ws zr_FL zt_FL 10, w ∈ zz_TB := List.forall_mem_cons.mpr ⟨zw_107, List.forall_mem_cons.mpr ⟨zw_109, List.forall_mem_cons.mpr ⟨zw_111, List.forall_mem_cons.mpr ⟨zw_113, List.forall_mem_cons.mpr ⟨zw_115, List.forall_mem_cons.mpr ⟨zw_117, List.forall_mem_cons.mpr ⟨zw_119, List.forall_mem_cons.mpr ⟨zw_121, List.forall_mem_cons.mpr ⟨zw_123, List.forall_mem_cons.mpr ⟨zw_125, fun _ h => absurd h List.not_mem_nil⟩⟩⟩⟩⟩⟩⟩⟩⟩⟩
def zr_RS : String := "PortTranslator$RuleList"
def zt_RS : u_T := fun k => match k with
  | _ => ("PortTranslator$RuleList", "rows", "[LPortTranslator$Rule;", true)
def zf_RS : Nat → FieldType := fun k => match k with
  | _ => .array (.object "PortTranslator$Rule")
theorem zn_RS : ∀ a, a < 1 → ∀ b, b < 1 → a ≠ b → (zt_RS a).2.1 ≠ (zt_RS b).2.1 := by decide +kernel
theorem zo_RS : ∀ k, k < 1 → parseFieldDescriptor (zt_RS k).2.2.1 = some (zf_RS k) := by decide +kernel
theorem zi_RS : ∀ w ∈ u_ws zr_RS zt_RS 1, w ∈ zz_TB := List.forall_mem_cons.mpr ⟨zw_171, fun _ h => absurd h List.not_mem_nil⟩
def zr_RU : String := "PortTranslator$Rule"
def zt_RU : u_T := fun k => match k with
  | 0 => ("PortTranslator$Rule", "isThere", "Z", false)
  | 1 => ("PortTranslator$Rule", "kind", "I", false)
  | 2 => ("PortTranslator$Rule", "network", "I", false)
  | 3 => ("PortTranslator$Rule", "bits", "I", false)
  | _ => ("PortTranslator$Rule", "permits", "Z", false)
def zf_RU : Nat → FieldType := fun k => match k with
  | 0 => .boolean
  | 1 => .int
  | 2 => .int
  | 3 => .int
  | _ => .boolean
theorem zn_RU : ∀ a, a < 5 → ∀ b, b < 5 → a ≠ b → (zt_RU a).2.1 ≠ (zt_RU b).2.1 := by decide +kernel
theorem zo_RU : ∀ k, k < 5 → parseFieldDescriptor (zt_RU k).2.2.1 = some (zf_RU k) := by decide +kernel
theorem zi_RU : ∀ w ∈ u_ws zr_RU zt_RU 5, w ∈ zz_TB := List.forall_mem_cons.mpr ⟨zw_158, List.forall_mem_cons.mpr ⟨zw_160, List.forall_mem_cons.mpr ⟨zw_162, List.forall_mem_cons.mpr ⟨zw_164, List.forall_mem_cons.mpr ⟨zw_166, fun _ h => absurd h List.not_mem_nil⟩⟩⟩⟩⟩
def zr_MO : String := "PortTranslatorModel"
def zt_MO : u_T := fun k => match k with
  | 0 => ("PortTranslatorModel", "w", "[I", true)
  | 1 => ("PortTranslatorModel", "size", "I", false)
  | 2 => ("PortTranslatorModel", "last", "[I", true)
  | 3 => ("PortTranslatorModel", "lastSize", "I", false)
  | 4 => ("PortTranslatorModel", "ruleKind", "[I", true)
  | 5 => ("PortTranslatorModel", "network", "[I", true)
  | 6 => ("PortTranslatorModel", "bits", "[I", true)
  | 7 => ("PortTranslatorModel", "permit", "[Z", true)
  | 8 => ("PortTranslatorModel", "flows", "I", false)
  | 9 => ("PortTranslatorModel", "kind", "[I", true)
  | 10 => ("PortTranslatorModel", "inner", "[I", true)
  | 11 => ("PortTranslatorModel", "innerPort", "[I", true)
  | 12 => ("PortTranslatorModel", "outer", "[I", true)
  | 13 => ("PortTranslatorModel", "outerPort", "[I", true)
  | 14 => ("PortTranslatorModel", "own", "[I", true)
  | 15 => ("PortTranslatorModel", "age", "[I", true)
  | 16 => ("PortTranslatorModel", "flags", "[I", true)
  | _ => ("PortTranslatorModel", "code", "I", false)
def zf_MO : Nat → FieldType := fun k => match k with
  | 0 => .array (.int)
  | 1 => .int
  | 2 => .array (.int)
  | 3 => .int
  | 4 => .array (.int)
  | 5 => .array (.int)
  | 6 => .array (.int)
  | 7 => .array (.boolean)
  | 8 => .int
  | 9 => .array (.int)
  | 10 => .array (.int)
  | 11 => .array (.int)
  | 12 => .array (.int)
  | 13 => .array (.int)
  | 14 => .array (.int)
  | 15 => .array (.int)
  | 16 => .array (.int)
  | _ => .int
theorem zn_MO : ∀ a, a < 18 → ∀ b, b < 18 → a ≠ b → (zt_MO a).2.1 ≠ (zt_MO b).2.1 := by decide +kernel
theorem zo_MO : ∀ k, k < 18 → parseFieldDescriptor (zt_MO k).2.2.1 = some (zf_MO k) := by decide +kernel
theorem zi_MO : ∀ w ∈ u_ws zr_MO zt_MO 18, w ∈ zz_TB := List.forall_mem_cons.mpr ⟨zw_602, List.forall_mem_cons.mpr ⟨zw_604, List.forall_mem_cons.mpr ⟨zw_606, List.forall_mem_cons.mpr ⟨zw_608, List.forall_mem_cons.mpr ⟨zw_610, List.forall_mem_cons.mpr ⟨zw_612, List.forall_mem_cons.mpr ⟨zw_614, List.forall_mem_cons.mpr ⟨zw_616, List.forall_mem_cons.mpr ⟨zw_618, List.forall_mem_cons.mpr ⟨zw_620, List.forall_mem_cons.mpr ⟨zw_622, List.forall_mem_cons.mpr ⟨zw_624, List.forall_mem_cons.mpr ⟨zw_626, List.forall_mem_cons.mpr ⟨zw_628, List.forall_mem_cons.mpr ⟨zw_630, List.forall_mem_cons.mpr ⟨zw_632, List.forall_mem_cons.mpr ⟨zw_634, List.forall_mem_cons.mpr ⟨zw_636, fun _ h => absurd h List.not_mem_nil⟩⟩⟩⟩⟩⟩⟩⟩⟩⟩⟩⟩⟩⟩⟩⟩⟩⟩
abbrev zz_cl : List vw_C := [(zr_PT, zt_PT, 5), (zr_PK, zt_PK, 2), (zr_SU, zt_SU, 7), (zr_FT, zt_FT, 2), (zr_FL, zt_FL, 10), (zr_RS, zt_RS, 1), (zr_RU, zt_RU, 5), (zr_MO, zt_MO, 18)]
end
