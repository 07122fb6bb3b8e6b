section
-- ===== PART A: goes FIRST, ahead of the names: the tables' words, and 'selects' of the private methods out of them =====
/-- a private method of a class that the tables say can be made, by its rows of tables_1 -/
def lw_okq (q : MethodName × Nat) : Prop := (q.1.cls ≠ "java/lang/invoke/MethodHandle" ∧ q.1.cls ≠ "java/lang/invoke/VarHandle") ∧ Cond.instantiable q.1.cls q.2 ∈ tables_1 ∧ Cond.privateMethod q.1 ∈ tables_1 ∧ Cond.instanceMethod q.1 ∈ tables_1
theorem lw_p0 : lw_okq (⟨"java/lang/Throwable", "fillInStackTrace", "(I)Ljava/lang/Throwable;"⟩, 6) := ⟨⟨by decide +kernel, by decide +kernel⟩, List.mem_of_getElem? (i := 420) (by decide +kernel), List.mem_of_getElem? (i := 418) (by decide +kernel), List.mem_of_getElem? (i := 419) (by decide +kernel)⟩
theorem lw_p1 : lw_okq (⟨"AttributeLink", "requireIdleClient", "()V"⟩, 9) := ⟨⟨by decide +kernel, by decide +kernel⟩, List.mem_of_getElem? (i := 24) (by decide +kernel), List.mem_of_getElem? (i := 544) (by decide +kernel), List.mem_of_getElem? (i := 545) (by decide +kernel)⟩
theorem lw_p2 : lw_okq (⟨"AttributeLink$Client", "composeFirst", "()V"⟩, 13) := ⟨⟨by decide +kernel, by decide +kernel⟩, List.mem_of_getElem? (i := 178) (by decide +kernel), List.mem_of_getElem? (i := 558) (by decide +kernel), List.mem_of_getElem? (i := 559) (by decide +kernel)⟩
theorem lw_p3 : lw_okq (⟨"AttributeLink$Client", "compose", "(II)V"⟩, 13) := ⟨⟨by decide +kernel, by decide +kernel⟩, List.mem_of_getElem? (i := 178) (by decide +kernel), List.mem_of_getElem? (i := 562) (by decide +kernel), List.mem_of_getElem? (i := 563) (by decide +kernel)⟩
theorem lw_p4 : lw_okq (⟨"AttributeLink$Client", "composeFind", "(I)V"⟩, 13) := ⟨⟨by decide +kernel, by decide +kernel⟩, List.mem_of_getElem? (i := 178) (by decide +kernel), List.mem_of_getElem? (i := 566) (by decide +kernel), List.mem_of_getElem? (i := 567) (by decide +kernel)⟩
theorem lw_p5 : lw_okq (⟨"AttributeLink$Client", "composePart", "()V"⟩, 13) := ⟨⟨by decide +kernel, by decide +kernel⟩, List.mem_of_getElem? (i := 178) (by decide +kernel), List.mem_of_getElem? (i := 571) (by decide +kernel), List.mem_of_getElem? (i := 572) (by decide +kernel)⟩
theorem lw_p6 : lw_okq (⟨"AttributeLink$Client", "ask", "(LAttributeLink$Outbox;)V"⟩, 13) := ⟨⟨by decide +kernel, by decide +kernel⟩, List.mem_of_getElem? (i := 178) (by decide +kernel), List.mem_of_getElem? (i := 575) (by decide +kernel), List.mem_of_getElem? (i := 576) (by decide +kernel)⟩
theorem lw_p7 : lw_okq (⟨"AttributeLink", "exchange", "(IJJ)I"⟩, 9) := ⟨⟨by decide +kernel, by decide +kernel⟩, List.mem_of_getElem? (i := 24) (by decide +kernel), List.mem_of_getElem? (i := 601) (by decide +kernel), List.mem_of_getElem? (i := 602) (by decide +kernel)⟩
theorem lw_p8 : lw_okq (⟨"AttributeLink$Device", "isGood", "()Z"⟩, 10) := ⟨⟨by decide +kernel, by decide +kernel⟩, List.mem_of_getElem? (i := 81) (by decide +kernel), List.mem_of_getElem? (i := 650) (by decide +kernel), List.mem_of_getElem? (i := 651) (by decide +kernel)⟩
theorem lw_p9 : lw_okq (⟨"AttributeLink$Device", "accept", "()V"⟩, 10) := ⟨⟨by decide +kernel, by decide +kernel⟩, List.mem_of_getElem? (i := 81) (by decide +kernel), List.mem_of_getElem? (i := 654) (by decide +kernel), List.mem_of_getElem? (i := 655) (by decide +kernel)⟩
theorem lw_p10 : lw_okq (⟨"AttributeLink$Inbox", "isSound", "(I)Z"⟩, 4) := ⟨⟨by decide +kernel, by decide +kernel⟩, List.mem_of_getElem? (i := 120) (by decide +kernel), List.mem_of_getElem? (i := 665) (by decide +kernel), List.mem_of_getElem? (i := 666) (by decide +kernel)⟩
theorem lw_p11 : lw_okq (⟨"AttributeLink$Server", "answerTo", "(LAttributeLink$Row;)I"⟩, 8) := ⟨⟨by decide +kernel, by decide +kernel⟩, List.mem_of_getElem? (i := 250) (by decide +kernel), List.mem_of_getElem? (i := 683) (by decide +kernel), List.mem_of_getElem? (i := 684) (by decide +kernel)⟩
theorem lw_p12 : lw_okq (⟨"AttributeLink$Server", "answerFind", "(II)I"⟩, 8) := ⟨⟨by decide +kernel, by decide +kernel⟩, List.mem_of_getElem? (i := 250) (by decide +kernel), List.mem_of_getElem? (i := 694) (by decide +kernel), List.mem_of_getElem? (i := 695) (by decide +kernel)⟩
theorem lw_p13 : lw_okq (⟨"AttributeLink$Server", "answerEnd", "(Z)I"⟩, 8) := ⟨⟨by decide +kernel, by decide +kernel⟩, List.mem_of_getElem? (i := 250) (by decide +kernel), List.mem_of_getElem? (i := 703) (by decide +kernel), List.mem_of_getElem? (i := 704) (by decide +kernel)⟩
theorem lw_p14 : lw_okq (⟨"AttributeLink$Server", "planParts", "()I"⟩, 8) := ⟨⟨by decide +kernel, by decide +kernel⟩, List.mem_of_getElem? (i := 250) (by decide +kernel), List.mem_of_getElem? (i := 707) (by decide +kernel), List.mem_of_getElem? (i := 708) (by decide +kernel)⟩
theorem lw_p15 : lw_okq (⟨"AttributeLink$Server", "answerAccess", "(LAttributeLink$Row;)I"⟩, 8) := ⟨⟨by decide +kernel, by decide +kernel⟩, List.mem_of_getElem? (i := 250) (by decide +kernel), List.mem_of_getElem? (i := 716) (by decide +kernel), List.mem_of_getElem? (i := 717) (by decide +kernel)⟩
def lw_privs_1 : List (MethodName × Nat) := [(⟨"java/lang/Throwable", "fillInStackTrace", "(I)Ljava/lang/Throwable;"⟩, 6), (⟨"AttributeLink", "requireIdleClient", "()V"⟩, 9), (⟨"AttributeLink$Client", "composeFirst", "()V"⟩, 13), (⟨"AttributeLink$Client", "compose", "(II)V"⟩, 13), (⟨"AttributeLink$Client", "composeFind", "(I)V"⟩, 13), (⟨"AttributeLink$Client", "composePart", "()V"⟩, 13), (⟨"AttributeLink$Client", "ask", "(LAttributeLink$Outbox;)V"⟩, 13), (⟨"AttributeLink", "exchange", "(IJJ)I"⟩, 9), (⟨"AttributeLink$Device", "isGood", "()Z"⟩, 10), (⟨"AttributeLink$Device", "accept", "()V"⟩, 10), (⟨"AttributeLink$Inbox", "isSound", "(I)Z"⟩, 4), (⟨"AttributeLink$Server", "answerTo", "(LAttributeLink$Row;)I"⟩, 8), (⟨"AttributeLink$Server", "answerFind", "(II)I"⟩, 8), (⟨"AttributeLink$Server", "answerEnd", "(Z)I"⟩, 8), (⟨"AttributeLink$Server", "planParts", "()I"⟩, 8), (⟨"AttributeLink$Server", "answerAccess", "(LAttributeLink$Row;)I"⟩, 8)]
theorem lw_r1 : ∀ q ∈ lw_privs_1, lw_okq q := List.forall_mem_cons.mpr ⟨lw_p0, List.forall_mem_cons.mpr ⟨lw_p1, List.forall_mem_cons.mpr ⟨lw_p2, List.forall_mem_cons.mpr ⟨lw_p3, List.forall_mem_cons.mpr ⟨lw_p4, List.forall_mem_cons.mpr ⟨lw_p5, List.forall_mem_cons.mpr ⟨lw_p6, List.forall_mem_cons.mpr ⟨lw_p7, List.forall_mem_cons.mpr ⟨lw_p8, List.forall_mem_cons.mpr ⟨lw_p9, List.forall_mem_cons.mpr ⟨lw_p10, List.forall_mem_cons.mpr ⟨lw_p11, List.forall_mem_cons.mpr ⟨lw_p12, List.forall_mem_cons.mpr ⟨lw_p13, List.forall_mem_cons.mpr ⟨lw_p14, List.forall_mem_cons.mpr ⟨lw_p15, fun _ h => absurd h List.not_mem_nil⟩⟩⟩⟩⟩⟩⟩⟩⟩⟩⟩⟩⟩⟩⟩⟩
theorem lw_p16 : lw_okq (⟨"AttributeLink$Server", "answerRead", "(ILAttributeLink$Row;I)I"⟩, 8) := ⟨⟨by decide +kernel, by decide +kernel⟩, List.mem_of_getElem? (i := 250) (by decide +kernel), List.mem_of_getElem? (i := 725) (by decide +kernel), List.mem_of_getElem? (i := 726) (by decide +kernel)⟩
theorem lw_p17 : lw_okq (⟨"AttributeLink$Server", "answerWrite", "(LAttributeLink$Row;LAttributeLink$Row;)I"⟩, 8) := ⟨⟨by decide +kernel, by decide +kernel⟩, List.mem_of_getElem? (i := 250) (by decide +kernel), List.mem_of_getElem? (i := 733) (by decide +kernel), List.mem_of_getElem? (i := 734) (by decide +kernel)⟩
theorem lw_p18 : lw_okq (⟨"AttributeLink$Server", "answerPart", "(LAttributeLink$Row;)I"⟩, 8) := ⟨⟨by decide +kernel, by decide +kernel⟩, List.mem_of_getElem? (i := 250) (by decide +kernel), List.mem_of_getElem? (i := 737) (by decide +kernel), List.mem_of_getElem? (i := 738) (by decide +kernel)⟩
theorem lw_p19 : lw_okq (⟨"AttributeLink$Server", "answerError", "(III)V"⟩, 8) := ⟨⟨by decide +kernel, by decide +kernel⟩, List.mem_of_getElem? (i := 250) (by decide +kernel), List.mem_of_getElem? (i := 741) (by decide +kernel), List.mem_of_getElem? (i := 742) (by decide +kernel)⟩
theorem lw_p20 : lw_okq (⟨"AttributeLink$Client", "keepNote", "(LAttributeLink$Row;LAttributeLink$Outbox;)V"⟩, 13) := ⟨⟨by decide +kernel, by decide +kernel⟩, List.mem_of_getElem? (i := 178) (by decide +kernel), List.mem_of_getElem? (i := 750) (by decide +kernel), List.mem_of_getElem? (i := 751) (by decide +kernel)⟩
theorem lw_p21 : lw_okq (⟨"AttributeLink$Client", "endsWith", "(LAttributeLink$Row;)Z"⟩, 13) := ⟨⟨by decide +kernel, by decide +kernel⟩, List.mem_of_getElem? (i := 178) (by decide +kernel), List.mem_of_getElem? (i := 762) (by decide +kernel), List.mem_of_getElem? (i := 763) (by decide +kernel)⟩
theorem lw_p22 : lw_okq (⟨"AttributeLink$Client", "succeed", "()V"⟩, 13) := ⟨⟨by decide +kernel, by decide +kernel⟩, List.mem_of_getElem? (i := 178) (by decide +kernel), List.mem_of_getElem? (i := 766) (by decide +kernel), List.mem_of_getElem? (i := 767) (by decide +kernel)⟩
theorem lw_p23 : lw_okq (⟨"AttributeLink$Client", "fail", "(I)V"⟩, 13) := ⟨⟨by decide +kernel, by decide +kernel⟩, List.mem_of_getElem? (i := 178) (by decide +kernel), List.mem_of_getElem? (i := 770) (by decide +kernel), List.mem_of_getElem? (i := 771) (by decide +kernel)⟩
theorem lw_p24 : lw_okq (⟨"AttributeLink$Client", "takeError", "(I)V"⟩, 13) := ⟨⟨by decide +kernel, by decide +kernel⟩, List.mem_of_getElem? (i := 178) (by decide +kernel), List.mem_of_getElem? (i := 774) (by decide +kernel), List.mem_of_getElem? (i := 775) (by decide +kernel)⟩
theorem lw_p25 : lw_okq (⟨"AttributeLink$Client", "neededBytes", "()I"⟩, 13) := ⟨⟨by decide +kernel, by decide +kernel⟩, List.mem_of_getElem? (i := 178) (by decide +kernel), List.mem_of_getElem? (i := 778) (by decide +kernel), List.mem_of_getElem? (i := 779) (by decide +kernel)⟩
theorem lw_p26 : lw_okq (⟨"AttributeLink$Client", "goOn", "(LAttributeLink$Row;)V"⟩, 13) := ⟨⟨by decide +kernel, by decide +kernel⟩, List.mem_of_getElem? (i := 178) (by decide +kernel), List.mem_of_getElem? (i := 782) (by decide +kernel), List.mem_of_getElem? (i := 783) (by decide +kernel)⟩
theorem lw_p27 : lw_okq (⟨"AttributeLink$Client", "goOnReading", "(LAttributeLink$Row;)V"⟩, 13) := ⟨⟨by decide +kernel, by decide +kernel⟩, List.mem_of_getElem? (i := 178) (by decide +kernel), List.mem_of_getElem? (i := 788) (by decide +kernel), List.mem_of_getElem? (i := 789) (by decide +kernel)⟩
theorem lw_p28 : lw_okq (⟨"AttributeLink$Client", "goOnFinding", "(I)V"⟩, 13) := ⟨⟨by decide +kernel, by decide +kernel⟩, List.mem_of_getElem? (i := 178) (by decide +kernel), List.mem_of_getElem? (i := 796) (by decide +kernel), List.mem_of_getElem? (i := 797) (by decide +kernel)⟩
theorem lw_p29 : lw_okq (⟨"AttributeLink$Client", "goOnWriting", "(LAttributeLink$Row;)V"⟩, 13) := ⟨⟨by decide +kernel, by decide +kernel⟩, List.mem_of_getElem? (i := 178) (by decide +kernel), List.mem_of_getElem? (i := 800) (by decide +kernel), List.mem_of_getElem? (i := 801) (by decide +kernel)⟩
theorem lw_p30 : lw_okq (⟨"AttributeLink", "finish", "(ZZ)V"⟩, 9) := ⟨⟨by decide +kernel, by decide +kernel⟩, List.mem_of_getElem? (i := 24) (by decide +kernel), List.mem_of_getElem? (i := 809) (by decide +kernel), List.mem_of_getElem? (i := 810) (by decide +kernel)⟩
theorem lw_p31 : lw_okq (⟨"AttributeLinkModel", "start", "(I)V"⟩, 62) := ⟨⟨by decide +kernel, by decide +kernel⟩, List.mem_of_getElem? (i := 916) (by decide +kernel), List.mem_of_getElem? (i := 1129) (by decide +kernel), List.mem_of_getElem? (i := 1130) (by decide +kernel)⟩
def lw_privs_2 : List (MethodName × Nat) := [(⟨"AttributeLink$Server", "answerRead", "(ILAttributeLink$Row;I)I"⟩, 8), (⟨"AttributeLink$Server", "answerWrite", "(LAttributeLink$Row;LAttributeLink$Row;)I"⟩, 8), (⟨"AttributeLink$Server", "answerPart", "(LAttributeLink$Row;)I"⟩, 8), (⟨"AttributeLink$Server", "answerError", "(III)V"⟩, 8), (⟨"AttributeLink$Client", "keepNote", "(LAttributeLink$Row;LAttributeLink$Outbox;)V"⟩, 13), (⟨"AttributeLink$Client", "endsWith", "(LAttributeLink$Row;)Z"⟩, 13), (⟨"AttributeLink$Client", "succeed", "()V"⟩, 13), (⟨"AttributeLink$Client", "fail", "(I)V"⟩, 13), (⟨"AttributeLink$Client", "takeError", "(I)V"⟩, 13), (⟨"AttributeLink$Client", "neededBytes", "()I"⟩, 13), (⟨"AttributeLink$Client", "goOn", "(LAttributeLink$Row;)V"⟩, 13), (⟨"AttributeLink$Client", "goOnReading", "(LAttributeLink$Row;)V"⟩, 13), (⟨"AttributeLink$Client", "goOnFinding", "(I)V"⟩, 13), (⟨"AttributeLink$Client", "goOnWriting", "(LAttributeLink$Row;)V"⟩, 13), (⟨"AttributeLink", "finish", "(ZZ)V"⟩, 9), (⟨"AttributeLinkModel", "start", "(I)V"⟩, 62)]
theorem lw_r2 : ∀ q ∈ lw_privs_2, lw_okq q := List.forall_mem_cons.mpr ⟨lw_p16, List.forall_mem_cons.mpr ⟨lw_p17, List.forall_mem_cons.mpr ⟨lw_p18, List.forall_mem_cons.mpr ⟨lw_p19, List.forall_mem_cons.mpr ⟨lw_p20, List.forall_mem_cons.mpr ⟨lw_p21, List.forall_mem_cons.mpr ⟨lw_p22, List.forall_mem_cons.mpr ⟨lw_p23, List.forall_mem_cons.mpr ⟨lw_p24, List.forall_mem_cons.mpr ⟨lw_p25, List.forall_mem_cons.mpr ⟨lw_p26, List.forall_mem_cons.mpr ⟨lw_p27, List.forall_mem_cons.mpr ⟨lw_p28, List.forall_mem_cons.mpr ⟨lw_p29, List.forall_mem_cons.mpr ⟨lw_p30, List.forall_mem_cons.mpr ⟨lw_p31, fun _ h => absurd h List.not_mem_nil⟩⟩⟩⟩⟩⟩⟩⟩⟩⟩⟩⟩⟩⟩⟩⟩
theorem lw_p32 : lw_okq (⟨"AttributeLinkModel", "lay", "(I)V"⟩, 62) := ⟨⟨by decide +kernel, by decide +kernel⟩, List.mem_of_getElem? (i := 916) (by decide +kernel), List.mem_of_getElem? (i := 1133) (by decide +kernel), List.mem_of_getElem? (i := 1134) (by decide +kernel)⟩
theorem lw_p33 : lw_okq (⟨"AttributeLinkModel", "give", "(I)V"⟩, 62) := ⟨⟨by decide +kernel, by decide +kernel⟩, List.mem_of_getElem? (i := 916) (by decide +kernel), List.mem_of_getElem? (i := 1137) (by decide +kernel), List.mem_of_getElem? (i := 1138) (by decide +kernel)⟩
theorem lw_p34 : lw_okq (⟨"AttributeLinkModel", "free", "()Z"⟩, 62) := ⟨⟨by decide +kernel, by decide +kernel⟩, List.mem_of_getElem? (i := 916) (by decide +kernel), List.mem_of_getElem? (i := 1145) (by decide +kernel), List.mem_of_getElem? (i := 1146) (by decide +kernel)⟩
theorem lw_p35 : lw_okq (⟨"AttributeLinkModel", "open", "(II)V"⟩, 62) := ⟨⟨by decide +kernel, by decide +kernel⟩, List.mem_of_getElem? (i := 916) (by decide +kernel), List.mem_of_getElem? (i := 1149) (by decide +kernel), List.mem_of_getElem? (i := 1150) (by decide +kernel)⟩
theorem lw_p36 : lw_okq (⟨"AttributeLinkModel", "ask", "()V"⟩, 62) := ⟨⟨by decide +kernel, by decide +kernel⟩, List.mem_of_getElem? (i := 916) (by decide +kernel), List.mem_of_getElem? (i := 1153) (by decide +kernel), List.mem_of_getElem? (i := 1154) (by decide +kernel)⟩
theorem lw_p37 : lw_okq (⟨"AttributeLinkModel", "writeOn", "()V"⟩, 62) := ⟨⟨by decide +kernel, by decide +kernel⟩, List.mem_of_getElem? (i := 916) (by decide +kernel), List.mem_of_getElem? (i := 1161) (by decide +kernel), List.mem_of_getElem? (i := 1162) (by decide +kernel)⟩
theorem lw_p38 : lw_okq (⟨"AttributeLinkModel", "happen", "(IJJ)I"⟩, 62) := ⟨⟨by decide +kernel, by decide +kernel⟩, List.mem_of_getElem? (i := 916) (by decide +kernel), List.mem_of_getElem? (i := 1173) (by decide +kernel), List.mem_of_getElem? (i := 1174) (by decide +kernel)⟩
theorem lw_p39 : lw_okq (⟨"AttributeLinkModel", "choose", "()V"⟩, 62) := ⟨⟨by decide +kernel, by decide +kernel⟩, List.mem_of_getElem? (i := 916) (by decide +kernel), List.mem_of_getElem? (i := 1177) (by decide +kernel), List.mem_of_getElem? (i := 1178) (by decide +kernel)⟩
theorem lw_p40 : lw_okq (⟨"AttributeLinkModel", "carry", "(IZJ)Z"⟩, 62) := ⟨⟨by decide +kernel, by decide +kernel⟩, List.mem_of_getElem? (i := 916) (by decide +kernel), List.mem_of_getElem? (i := 1181) (by decide +kernel), List.mem_of_getElem? (i := 1182) (by decide +kernel)⟩
theorem lw_p41 : lw_okq (⟨"AttributeLinkModel", "send", "(I)V"⟩, 62) := ⟨⟨by decide +kernel, by decide +kernel⟩, List.mem_of_getElem? (i := 916) (by decide +kernel), List.mem_of_getElem? (i := 1185) (by decide +kernel), List.mem_of_getElem? (i := 1186) (by decide +kernel)⟩
theorem lw_p42 : lw_okq (⟨"AttributeLinkModel", "take", "(I)V"⟩, 62) := ⟨⟨by decide +kernel, by decide +kernel⟩, List.mem_of_getElem? (i := 916) (by decide +kernel), List.mem_of_getElem? (i := 1189) (by decide +kernel), List.mem_of_getElem? (i := 1190) (by decide +kernel)⟩
theorem lw_p43 : lw_okq (⟨"AttributeLinkModel", "check", "(I)I"⟩, 62) := ⟨⟨by decide +kernel, by decide +kernel⟩, List.mem_of_getElem? (i := 916) (by decide +kernel), List.mem_of_getElem? (i := 1193) (by decide +kernel), List.mem_of_getElem? (i := 1194) (by decide +kernel)⟩
theorem lw_p44 : lw_okq (⟨"AttributeLinkModel", "whiten", "()V"⟩, 62) := ⟨⟨by decide +kernel, by decide +kernel⟩, List.mem_of_getElem? (i := 916) (by decide +kernel), List.mem_of_getElem? (i := 1200) (by decide +kernel), List.mem_of_getElem? (i := 1201) (by decide +kernel)⟩
theorem lw_p45 : lw_okq (⟨"AttributeLinkModel", "hear", "(I)Z"⟩, 62) := ⟨⟨by decide +kernel, by decide +kernel⟩, List.mem_of_getElem? (i := 916) (by decide +kernel), List.mem_of_getElem? (i := 1204) (by decide +kernel), List.mem_of_getElem? (i := 1205) (by decide +kernel)⟩
theorem lw_p46 : lw_okq (⟨"AttributeLinkModel", "collect", "(II)V"⟩, 62) := ⟨⟨by decide +kernel, by decide +kernel⟩, List.mem_of_getElem? (i := 916) (by decide +kernel), List.mem_of_getElem? (i := 1209) (by decide +kernel), List.mem_of_getElem? (i := 1210) (by decide +kernel)⟩
theorem lw_p47 : lw_okq (⟨"AttributeLinkModel", "clientHandles", "()V"⟩, 62) := ⟨⟨by decide +kernel, by decide +kernel⟩, List.mem_of_getElem? (i := 916) (by decide +kernel), List.mem_of_getElem? (i := 1213) (by decide +kernel), List.mem_of_getElem? (i := 1214) (by decide +kernel)⟩
def lw_privs_3 : List (MethodName × Nat) := [(⟨"AttributeLinkModel", "lay", "(I)V"⟩, 62), (⟨"AttributeLinkModel", "give", "(I)V"⟩, 62), (⟨"AttributeLinkModel", "free", "()Z"⟩, 62), (⟨"AttributeLinkModel", "open", "(II)V"⟩, 62), (⟨"AttributeLinkModel", "ask", "()V"⟩, 62), (⟨"AttributeLinkModel", "writeOn", "()V"⟩, 62), (⟨"AttributeLinkModel", "happen", "(IJJ)I"⟩, 62), (⟨"AttributeLinkModel", "choose", "()V"⟩, 62), (⟨"AttributeLinkModel", "carry", "(IZJ)Z"⟩, 62), (⟨"AttributeLinkModel", "send", "(I)V"⟩, 62), (⟨"AttributeLinkModel", "take", "(I)V"⟩, 62), (⟨"AttributeLinkModel", "check", "(I)I"⟩, 62), (⟨"AttributeLinkModel", "whiten", "()V"⟩, 62), (⟨"AttributeLinkModel", "hear", "(I)Z"⟩, 62), (⟨"AttributeLinkModel", "collect", "(II)V"⟩, 62), (⟨"AttributeLinkModel", "clientHandles", "()V"⟩, 62)]
theorem lw_r3 : ∀ q ∈ lw_privs_3, lw_okq q := List.forall_mem_cons.mpr ⟨lw_p32, List.forall_mem_cons.mpr ⟨lw_p33, List.forall_mem_cons.mpr ⟨lw_p34, List.forall_mem_cons.mpr ⟨lw_p35, List.forall_mem_cons.mpr ⟨lw_p36, List.forall_mem_cons.mpr ⟨lw_p37, List.forall_mem_cons.mpr ⟨lw_p38, List.forall_mem_cons.mpr ⟨lw_p39, List.forall_mem_cons.mpr ⟨lw_p40, List.forall_mem_cons.mpr ⟨lw_p41, List.forall_mem_cons.mpr ⟨lw_p42, List.forall_mem_cons.mpr ⟨lw_p43, List.forall_mem_cons.mpr ⟨lw_p44, List.forall_mem_cons.mpr ⟨lw_p45, List.forall_mem_cons.mpr ⟨lw_p46, List.forall_mem_cons.mpr ⟨lw_p47, fun _ h => absurd h List.not_mem_nil⟩⟩⟩⟩⟩⟩⟩⟩⟩⟩⟩⟩⟩⟩⟩⟩
theorem lw_p48 : lw_okq (⟨"AttributeLinkModel", "answered", "()V"⟩, 62) := ⟨⟨by decide +kernel, by decide +kernel⟩, List.mem_of_getElem? (i := 916) (by decide +kernel), List.mem_of_getElem? (i := 1217) (by decide +kernel), List.mem_of_getElem? (i := 1218) (by decide +kernel)⟩
theorem lw_p49 : lw_okq (⟨"AttributeLinkModel", "end", "(II)V"⟩, 62) := ⟨⟨by decide +kernel, by decide +kernel⟩, List.mem_of_getElem? (i := 916) (by decide +kernel), List.mem_of_getElem? (i := 1221) (by decide +kernel), List.mem_of_getElem? (i := 1222) (by decide +kernel)⟩
theorem lw_p50 : lw_okq (⟨"AttributeLinkModel", "limits", "()V"⟩, 62) := ⟨⟨by decide +kernel, by decide +kernel⟩, List.mem_of_getElem? (i := 916) (by decide +kernel), List.mem_of_getElem? (i := 1225) (by decide +kernel), List.mem_of_getElem? (i := 1226) (by decide +kernel)⟩
theorem lw_p51 : lw_okq (⟨"AttributeLinkModel", "read", "()V"⟩, 62) := ⟨⟨by decide +kernel, by decide +kernel⟩, List.mem_of_getElem? (i := 916) (by decide +kernel), List.mem_of_getElem? (i := 1229) (by decide +kernel), List.mem_of_getElem? (i := 1230) (by decide +kernel)⟩
theorem lw_p52 : lw_okq (⟨"AttributeLinkModel", "found", "()V"⟩, 62) := ⟨⟨by decide +kernel, by decide +kernel⟩, List.mem_of_getElem? (i := 916) (by decide +kernel), List.mem_of_getElem? (i := 1233) (by decide +kernel), List.mem_of_getElem? (i := 1234) (by decide +kernel)⟩
theorem lw_p53 : lw_okq (⟨"AttributeLinkModel", "written", "()V"⟩, 62) := ⟨⟨by decide +kernel, by decide +kernel⟩, List.mem_of_getElem? (i := 916) (by decide +kernel), List.mem_of_getElem? (i := 1237) (by decide +kernel), List.mem_of_getElem? (i := 1238) (by decide +kernel)⟩
theorem lw_p54 : lw_okq (⟨"AttributeLinkModel", "serverHandles", "()V"⟩, 62) := ⟨⟨by decide +kernel, by decide +kernel⟩, List.mem_of_getElem? (i := 916) (by decide +kernel), List.mem_of_getElem? (i := 1241) (by decide +kernel), List.mem_of_getElem? (i := 1242) (by decide +kernel)⟩
theorem lw_p55 : lw_okq (⟨"AttributeLinkModel", "refuse", "(II)V"⟩, 62) := ⟨⟨by decide +kernel, by decide +kernel⟩, List.mem_of_getElem? (i := 916) (by decide +kernel), List.mem_of_getElem? (i := 1245) (by decide +kernel), List.mem_of_getElem? (i := 1246) (by decide +kernel)⟩
theorem lw_p56 : lw_okq (⟨"AttributeLinkModel", "sized", "()Z"⟩, 62) := ⟨⟨by decide +kernel, by decide +kernel⟩, List.mem_of_getElem? (i := 916) (by decide +kernel), List.mem_of_getElem? (i := 1249) (by decide +kernel), List.mem_of_getElem? (i := 1250) (by decide +kernel)⟩
theorem lw_p57 : lw_okq (⟨"AttributeLinkModel", "agree", "()V"⟩, 62) := ⟨⟨by decide +kernel, by decide +kernel⟩, List.mem_of_getElem? (i := 916) (by decide +kernel), List.mem_of_getElem? (i := 1253) (by decide +kernel), List.mem_of_getElem? (i := 1254) (by decide +kernel)⟩
theorem lw_p58 : lw_okq (⟨"AttributeLinkModel", "seek", "()V"⟩, 62) := ⟨⟨by decide +kernel, by decide +kernel⟩, List.mem_of_getElem? (i := 916) (by decide +kernel), List.mem_of_getElem? (i := 1257) (by decide +kernel), List.mem_of_getElem? (i := 1258) (by decide +kernel)⟩
theorem lw_p59 : lw_okq (⟨"AttributeLinkModel", "finish", "()V"⟩, 62) := ⟨⟨by decide +kernel, by decide +kernel⟩, List.mem_of_getElem? (i := 916) (by decide +kernel), List.mem_of_getElem? (i := 1261) (by decide +kernel), List.mem_of_getElem? (i := 1262) (by decide +kernel)⟩
theorem lw_p60 : lw_okq (⟨"AttributeLinkModel", "judge", "()I"⟩, 62) := ⟨⟨by decide +kernel, by decide +kernel⟩, List.mem_of_getElem? (i := 916) (by decide +kernel), List.mem_of_getElem? (i := 1265) (by decide +kernel), List.mem_of_getElem? (i := 1266) (by decide +kernel)⟩
theorem lw_p61 : lw_okq (⟨"AttributeLinkModel", "touch", "(II)V"⟩, 62) := ⟨⟨by decide +kernel, by decide +kernel⟩, List.mem_of_getElem? (i := 916) (by decide +kernel), List.mem_of_getElem? (i := 1269) (by decide +kernel), List.mem_of_getElem? (i := 1270) (by decide +kernel)⟩
theorem lw_p62 : lw_okq (⟨"AttributeLinkModel", "show", "(III)V"⟩, 62) := ⟨⟨by decide +kernel, by decide +kernel⟩, List.mem_of_getElem? (i := 916) (by decide +kernel), List.mem_of_getElem? (i := 1273) (by decide +kernel), List.mem_of_getElem? (i := 1274) (by decide +kernel)⟩
theorem lw_p63 : lw_okq (⟨"AttributeLinkModel", "replace", "(I)V"⟩, 62) := ⟨⟨by decide +kernel, by decide +kernel⟩, List.mem_of_getElem? (i := 916) (by decide +kernel), List.mem_of_getElem? (i := 1277) (by decide +kernel), List.mem_of_getElem? (i := 1278) (by decide +kernel)⟩
def lw_privs_4 : List (MethodName × Nat) := [(⟨"AttributeLinkModel", "answered", "()V"⟩, 62), (⟨"AttributeLinkModel", "end", "(II)V"⟩, 62), (⟨"AttributeLinkModel", "limits", "()V"⟩, 62), (⟨"AttributeLinkModel", "read", "()V"⟩, 62), (⟨"AttributeLinkModel", "found", "()V"⟩, 62), (⟨"AttributeLinkModel", "written", "()V"⟩, 62), (⟨"AttributeLinkModel", "serverHandles", "()V"⟩, 62), (⟨"AttributeLinkModel", "refuse", "(II)V"⟩, 62), (⟨"AttributeLinkModel", "sized", "()Z"⟩, 62), (⟨"AttributeLinkModel", "agree", "()V"⟩, 62), (⟨"AttributeLinkModel", "seek", "()V"⟩, 62), (⟨"AttributeLinkModel", "finish", "()V"⟩, 62), (⟨"AttributeLinkModel", "judge", "()I"⟩, 62), (⟨"AttributeLinkModel", "touch", "(II)V"⟩, 62), (⟨"AttributeLinkModel", "show", "(III)V"⟩, 62), (⟨"AttributeLinkModel", "replace", "(I)V"⟩, 62)]
theorem lw_r4 : ∀ q ∈ lw_privs_4, lw_okq q := List.forall_mem_cons.mpr ⟨lw_p48, List.forall_mem_cons.mpr ⟨lw_p49, List.forall_mem_cons.mpr ⟨lw_p50, List.forall_mem_cons.mpr ⟨lw_p51, List.forall_mem_cons.mpr ⟨lw_p52, List.forall_mem_cons.mpr ⟨lw_p53, List.forall_mem_cons.mpr ⟨lw_p54, List.forall_mem_cons.mpr ⟨lw_p55, List.forall_mem_cons.mpr ⟨lw_p56, List.forall_mem_cons.mpr ⟨lw_p57, List.forall_mem_cons.mpr ⟨lw_p58, List.forall_mem_cons.mpr ⟨lw_p59, List.forall_mem_cons.mpr ⟨lw_p60, List.forall_mem_cons.mpr ⟨lw_p61, List.forall_mem_cons.mpr ⟨lw_p62, List.forall_mem_cons.mpr ⟨lw_p63, fun _ h => absurd h List.not_mem_nil⟩⟩⟩⟩⟩⟩⟩⟩⟩⟩⟩⟩⟩⟩⟩⟩
theorem lw_p64 : lw_okq (⟨"AttributeLinkModel", "keep", "(I)V"⟩, 62) := ⟨⟨by decide +kernel, by decide +kernel⟩, List.mem_of_getElem? (i := 916) (by decide +kernel), List.mem_of_getElem? (i := 1281) (by decide +kernel), List.mem_of_getElem? (i := 1282) (by decide +kernel)⟩
theorem lw_p65 : lw_okq (⟨"AttributeLinkModel", "fail", "(I)I"⟩, 62) := ⟨⟨by decide +kernel, by decide +kernel⟩, List.mem_of_getElem? (i := 916) (by decide +kernel), List.mem_of_getElem? (i := 1305) (by decide +kernel), List.mem_of_getElem? (i := 1306) (by decide +kernel)⟩
def lw_privs_5 : List (MethodName × Nat) := [(⟨"AttributeLinkModel", "keep", "(I)V"⟩, 62), (⟨"AttributeLinkModel", "fail", "(I)I"⟩, 62)]
theorem lw_r5 : ∀ q ∈ lw_privs_5, lw_okq q := List.forall_mem_cons.mpr ⟨lw_p64, List.forall_mem_cons.mpr ⟨lw_p65, fun _ h => absurd h List.not_mem_nil⟩⟩
def lw_privs : List (MethodName × Nat) := lw_privs_1 ++ (lw_privs_2 ++ (lw_privs_3 ++ (lw_privs_4 ++ (lw_privs_5))))
def lw_tbl : List Cond := k2_sels lw_privs ++ tables_1
theorem lw_privs_ok : ∀ q ∈ lw_privs, lw_okq q := by
  show ∀ q ∈ lw_privs_1 ++ (lw_privs_2 ++ (lw_privs_3 ++ (lw_privs_4 ++ (lw_privs_5)))), lw_okq q
  exact List.forall_mem_append.mpr ⟨lw_r1, List.forall_mem_append.mpr ⟨lw_r2, List.forall_mem_append.mpr ⟨lw_r3, List.forall_mem_append.mpr ⟨lw_r4, lw_r5⟩⟩⟩⟩
end
section
/-! A machine of our own over a heap of our own: what the bytecode does, said without the JVM's state. Part 10: its words. -/
/-- the static half of a heap: cell k is an object of class t (t < 100) with N fields, or an array (100 int, 101 boolean, 102 long, 103 and on: of references; 150: the script) of N places; where its references point; how many cells -/
abbrev am_S : Type := (Nat → Option (Nat × Nat)) × (Nat → Nat → Option Nat) × Nat
/-- static half, cells made and left behind, ints, longs -/
abbrev am_H : Type := am_S × Nat × (Nat → Nat → Int32) × (Nat → Nat → Int64)
abbrev am_sh (h : am_H) : Nat → Option (Nat × Nat) := h.1.1
abbrev am_P (h : am_H) : Nat → Nat → Option Nat := h.1.2.1
abbrev am_n (h : am_H) : Nat := h.1.2.2
abbrev am_g (h : am_H) : Nat := h.2.1
abbrev am_I (h : am_H) : Nat → Nat → Int32 := h.2.2.1
abbrev am_L (h : am_H) : Nat → Nat → Int64 := h.2.2.2
def am_u1 {α : Type} (f : Nat → α) (k : Nat) (x : α) : Nat → α := fun j => if j = k then x else f j
def am_u2 {α : Type} (f : Nat → Nat → α) (a k : Nat) (x : α) : Nat → Nat → α := fun b => if b = a then (fun j => if j = k then x else f a j) else f b
def am_setI (h : am_H) (I : Nat → Nat → Int32) : am_H := (h.1, h.2.1, I, h.2.2.2)
def am_setL (h : am_H) (L : Nat → Nat → Int64) : am_H := (h.1, h.2.1, h.2.2.1, L)
def am_setP (h : am_H) (P : Nat → Nat → Option Nat) : am_H := ((h.1.1, P, h.1.2.2), h.2)
def am_setG (h : am_H) (g : Nat) : am_H := (h.1, g, h.2.2)
/-- a new cell, number n + 1, all of it 0 and null -/
def am_add (h : am_H) (t N : Nat) : am_H := ((am_u1 h.1.1 (h.1.2.2 + 1) (some (t, N)), am_u1 h.1.2.1 (h.1.2.2 + 1) (fun _ => none), h.1.2.2 + 1), h.2.1, am_u1 h.2.2.1 (h.1.2.2 + 1) (fun _ => 0), am_u1 h.2.2.2 (h.1.2.2 + 1) (fun _ => 0))
/-- what a method ends with: an answer, or an exception of a class -/
abbrev am_O : Type := Option Value ⊕ Nat
/-- a method: name, code, locals, kind of answer, number of its class, how many parameters, cells and slots that it may make, its handlers (from, to, there, class) -/
abbrev am_M : Type := MethodName × ByteArray × Nat × Option FieldType × Nat × Nat × Nat × Nat × List (Nat × Nat × Nat × Nat)
abbrev am_y (M : am_M) : MethodName := M.1
abbrev am_b (M : am_M) : ByteArray := M.2.1
abbrev am_mL (M : am_M) : Nat := M.2.2.1
abbrev am_rt (M : am_M) : Option FieldType := M.2.2.2.1
abbrev am_o (M : am_M) : Nat := M.2.2.2.2.1
abbrev am_np (M : am_M) : Nat := M.2.2.2.2.2.1
abbrev am_mc (M : am_M) : Nat := M.2.2.2.2.2.2.1
abbrev am_ms (M : am_M) : Nat := M.2.2.2.2.2.2.2.1
abbrev am_hs (M : am_M) : List (Nat × Nat × Nat × Nat) := M.2.2.2.2.2.2.2.2
/-- a program: what a place of a class's pool is; its constants; its methods; of class c the field f: 0 int, 1 boolean, 2 reference (final: 10, 11, 12); of class c the number of fields; of an array of references the class of what it holds -/
abbrev am_G : Type := (Nat → Nat → Nat × Nat × Nat × Nat) × (Nat → Nat → Option Value) × (Nat → am_M) × (Nat → Nat → Nat) × (Nat → Nat) × (Nat → Nat)
abbrev am_pl (G : am_G) : Nat → Nat → Nat × Nat × Nat × Nat := G.1
abbrev am_kc (G : am_G) : Nat → Nat → Option Value := G.2.1
abbrev am_mt (G : am_G) : Nat → am_M := G.2.2.1
abbrev am_ft (G : am_G) : Nat → Nat → Nat := G.2.2.2.1
abbrev am_nf (G : am_G) : Nat → Nat := G.2.2.2.2.1
abbrev am_ac (G : am_G) : Nat → Nat := G.2.2.2.2.2
/-- locals: a list of (place, value) -/
def am_lk (al : List (Nat × Value)) (i : Nat) : Option Value := match al with
  | [] => none
  | q :: r => if q.1 = i then some q.2 else am_lk r i
def am_s1 (al : List (Nat × Value)) (i : Nat) (v : Value) : List (Nat × Value) := (i, v) :: al.filter (fun q => !(q.1 == i) && !(q.1 + 1 == i && q.2.category == 2))
def am_vi (o : Option Value) (f : Int32 → Prop) : Prop := match o with
  | some (.int x) => f x
  | _ => False
def am_vl (o : Option Value) (f : Int64 → Prop) : Prop := match o with
  | some (.long x) => f x
  | _ => False
def am_vr (o : Option Value) (f : Nat → Prop) : Prop := match o with
  | some (.ref x) => f x
  | _ => False
def am_so {α : Type} (o : Option α) (f : α → Prop) : Prop := match o with
  | some x => f x
  | none => False
def am_w8 (st : List Value) : Nat := (st.map fun v => v.category).sum
/-- what only moves the operand stack -/
def am_pure : Instr → List Value → Option (Nat × List Value)
  | .iconst n, st => some (1, .int (Int32.ofInt n) :: st)
  | .bipush n, st => some (2, .int (Int8.ofInt n).toInt32 :: st)
  | .sipush n, st => some (3, .int (Int16.ofInt n).toInt32 :: st)
  | .lconst n, st => some (1, .long (Int64.ofNat (n : Nat)) :: st)
  | .iadd, .int y :: .int x :: r => some (1, .int (x + y) :: r)
  | .isub, .int y :: .int x :: r => some (1, .int (x - y) :: r)
  | .imul, .int y :: .int x :: r => some (1, .int (x * y) :: r)
  | .iand, .int y :: .int x :: r => some (1, .int (x &&& y) :: r)
  | .ior, .int y :: .int x :: r => some (1, .int (x ||| y) :: r)
  | .ixor, .int y :: .int x :: r => some (1, .int (x ^^^ y) :: r)
  | .ishl, .int y :: .int x :: r => some (1, .int (x <<< (y &&& 31)) :: r)
  | .ishr, .int y :: .int x :: r => some (1, .int (x >>> (y &&& 31)) :: r)
  | .iushr, .int y :: .int x :: r => some (1, .int (x.toUInt32 >>> (y.toUInt32 &&& Int32.toUInt32 31)).toInt32 :: r)
  | .i2l, .int x :: r => some (1, .long x.toInt64 :: r)
  | .l2i, .long x :: r => some (1, .int x.toInt32 :: r)
  | .land, .long y :: .long x :: r => some (1, .long (x &&& y) :: r)
  | .lor, .long y :: .long x :: r => some (1, .long (x ||| y) :: r)
  | .lshl, .int y :: .long x :: r => some (1, .long (x <<< (y.toInt64 &&& 63)) :: r)
  | .lshr, .int y :: .long x :: r => some (1, .long (x >>> (y.toInt64 &&& 63)) :: r)
  | .lushr, .int y :: .long x :: r => some (1, .long (x.toUInt64 >>> (y.toInt64.toUInt64 &&& Int64.toUInt64 63)).toInt64 :: r)
  | .lcmp, .long y :: .long x :: r => some (1, .int (lg_cmp x y) :: r)
  | .dup, .int x :: r => some (1, .int x :: .int x :: r)
  | .dup, .ref x :: r => some (1, .ref x :: .ref x :: r)
  | .dup2, .int x :: .ref y :: r => some (1, .int x :: .ref y :: .int x :: .ref y :: r)
  | .pop, .int _ :: r => some (1, r)
  | .pop, .ref _ :: r => some (1, r)
  | _, _ => none
/-- a branch: is it taken, how far, what stays -/
def am_br : Instr → List Value → Option (Bool × Int × List Value)
  | .goto off, st => some (true, off, st)
  | .ifCond .eq off, .int x :: r => some (decide (x = 0), off, r)
  | .ifCond .ne off, .int x :: r => some (decide (¬ x = 0), off, r)
  | .ifCond .lt off, .int x :: r => some (decide (x < 0), off, r)
  | .ifCond .ge off, .int x :: r => some (decide (0 ≤ x), off, r)
  | .ifCond .gt off, .int x :: r => some (decide (0 < x), off, r)
  | .ifCond .le off, .int x :: r => some (decide (x ≤ 0), off, r)
  | .if_icmp .eq off, .int y :: .int x :: r => some (decide (x = y), off, r)
  | .if_icmp .ne off, .int y :: .int x :: r => some (decide (¬ x = y), off, r)
  | .if_icmp .lt off, .int y :: .int x :: r => some (decide (x < y), off, r)
  | .if_icmp .ge off, .int y :: .int x :: r => some (decide (y ≤ x), off, r)
  | .if_icmp .gt off, .int y :: .int x :: r => some (decide (y < x), off, r)
  | .if_icmp .le off, .int y :: .int x :: r => some (decide (x ≤ y), off, r)
  | _, _ => none
/-- the first handler over pc for class x; f: the class that a place of the pool names -/
def am_hf (f : Nat → Nat) (hs : List (Nat × Nat × Nat × Nat)) (pc x : Nat) : Option Nat := match hs with
  | [] => none
  | q :: r => if q.1 ≤ pc ∧ pc < q.2.1 ∧ f q.2.2.2 = x then some q.2.2.1 else am_hf f r pc x
/-- where a switch goes -/
def am_sw : Instr → List Value → Option (Int × List Value)
  | .tableswitch d lo hi offs, .int x :: r => if x.toInt < lo ∨ hi < x.toInt then some (d, r) else (offs[(x.toInt - lo).toNat]?).map (fun o => (o, r))
  | .lookupswitch d ps, .int x :: r => if (ps.toList.zip (ps.toList.drop 1)).all (fun (a, next) => a.1 < next.1) = true then some (Op.lookupswitch.offset ps.toList d x.toInt, r) else none
  | _, _ => none
def am_tg (pc : Nat) (off : Int) (f : Nat → Prop) : Prop := (pc : Int) + off = (((pc : Int) + off).toNat : Int) ∧ f ((pc : Int) + off).toNat
def am_sti (st : List Value) (f : Int32 → List Value → Prop) : Prop := match st with
  | .int x :: r => f x r
  | _ => False
def am_str (st : List Value) (f : Nat → List Value → Prop) : Prop := match st with
  | .ref x :: r => f x r
  | _ => False
def am_stv (st : List Value) (f : Value → Nat → List Value → Prop) : Prop := match st with
  | v :: .ref a :: r => f v a r
  | _ => False
def am_get (G : am_G) (M : am_M) (idx : Nat) (h : am_H) (a : Nat) (f : Value → Prop) : Prop := match am_pl G (am_o M) idx with
  | (1, ci, fi, 0) => am_sh h a = some (ci, am_nf G ci) ∧ fi < am_nf G ci ∧ (if am_ft G ci fi % 10 = 2 then am_so (am_P h a fi) (fun j => f (.ref j)) else f (.int (am_I h a fi)))
  | _ => False
def am_put (G : am_G) (M : am_M) (idx : Nat) (h : am_H) (a : Nat) (v : Value) (f : am_H → Prop) : Prop := match am_pl G (am_o M) idx with
  | (1, ci, fi, 0) => am_sh h a = some (ci, am_nf G ci) ∧ fi < am_nf G ci ∧ (am_ft G ci fi < 10 ∨ ((am_y M).name = "<init>" ∧ am_o M = ci)) ∧
    (match v with
    | .int x => (am_ft G ci fi % 10 = 0 ∨ (am_ft G ci fi % 10 = 1 ∧ (x = 0 ∨ x = 1))) ∧ f (am_setI h (am_u2 (am_I h) a fi x))
    | .ref j => am_ft G ci fi % 10 = 2 ∧ f (am_setP h (am_u2 (am_P h) a fi (some j)))
    | _ => False)
  | _ => False
/-- an array's place is read: i of a -/
def am_ald (G : am_G) (ins : Instr) (h : am_H) (i : Int32) (a : Nat) (f : Value → Prop) : Prop := am_so (am_sh h a) (fun q => vp_in i q.2 ∧ (match ins with
  | .iaload => (q.1 = 100 ∨ (q.1 = 150 ∧ a = 0)) ∧ f (.int (am_I h a i.toNatClampNeg))
  | .baload => q.1 = 101 ∧ f (.int (am_I h a i.toNatClampNeg))
  | .laload => q.1 = 102 ∧ f (.long (am_L h a i.toNatClampNeg))
  | .aaload => (q.1 = 103 ∨ q.1 = 104) ∧ am_so (am_P h a i.toNatClampNeg) (fun j => f (.ref j))
  | _ => False))
/-- an array's place is written: v to i of a -/
def am_ast (G : am_G) (ins : Instr) (h : am_H) (v : Value) (i : Int32) (a : Nat) (f : am_H → Prop) : Prop := am_so (am_sh h a) (fun q => vp_in i q.2 ∧ (match ins, v with
  | .iastore, .int x => q.1 = 100 ∧ f (am_setI h (am_u2 (am_I h) a i.toNatClampNeg x))
  | .bastore, .int x => q.1 = 101 ∧ f (am_setI h (am_u2 (am_I h) a i.toNatClampNeg (vp_nar .boolean x)))
  | .lastore, .long x => q.1 = 102 ∧ f (am_setL h (am_u2 (am_L h) a i.toNatClampNeg x))
  | .aastore, .ref j => (q.1 = 103 ∨ q.1 = 104) ∧ am_sh h j = some (am_ac G q.1, am_nf G (am_ac G q.1)) ∧ am_ac G q.1 < 100 ∧ f (am_setP h (am_u2 (am_P h) a i.toNatClampNeg (some j)))
  | _, _ => False))
/-- behind a call -/
def am_cont (G : am_G) (M : am_M) (k : Nat → List (Nat × Value) → List Value → am_H → Nat → Nat → Prop) (Q : am_O → am_H → Prop) (pc : Nat) (al : List (Nat × Value)) (rest : List Value) (c u : Nat) (o : am_O) (h : am_H) : Prop := match o with
  | .inl v => k (pc + 3) al (v.toList ++ rest) h c u
  | .inr x => match am_hf (fun i => (am_pl G (am_o M) i).2.1) (am_hs M) pc x with
    | some t => x < 4 ∧ k t al [.ref (am_n h + am_g h)] h c u
    | none => am_hs M = [] ∧ Q (.inr x) h
/-- a call of method j with the arguments as -/
def am_inv (C : Nat → List Value → am_H → am_O → am_H → Prop) (G : am_G) (M : am_M) (k : Nat → List (Nat × Value) → List Value → am_H → Nat → Nat → Prop) (Q : am_O → am_H → Prop) (j : Nat) (as : List Value) (pc : Nat) (al : List (Nat × Value)) (rest : List Value) (h : am_H) (c u : Nat) : Prop :=
  am_w8 rest ≤ 8 ∧ c + am_mc (am_mt G j) ≤ am_mc M ∧ u + am_ms (am_mt G j) ≤ am_ms M ∧ ∃ (o : am_O) (h' : am_H), C j as h o h' ∧ am_cont G M k Q pc al rest (c + am_mc (am_mt G j)) (u + am_ms (am_mt G j)) o h'
/-- System.arraycopy of ints -/
def am_cpy (h : am_H) (st : List Value) (f : am_H → List Value → Prop) : Prop := match st with
  | .int n :: .int dp :: .ref a1 :: .int sp :: .ref a0 :: r => ∃ n0 n1, am_sh h a0 = some (100, n0) ∧ am_sh h a1 = some (100, n1) ∧ ¬ sp < 0 ∧ ¬ dp < 0 ∧ ¬ n < 0 ∧ sp.toNatClampNeg + n.toNatClampNeg ≤ n0 ∧ dp.toNatClampNeg + n.toNatClampNeg ≤ n1 ∧ am_w8 r ≤ 8 ∧
    f (am_setI h (am_u1 (am_I h) a1 (va_cpy (am_I h a0) (am_I h a1) sp.toNatClampNeg dp.toNatClampNeg n.toNatClampNeg))) r
  | _ => False
def am_newa (M : am_M) (t : Nat) (n : Int32) (h : am_H) (c u : Nat) (f : am_H → Nat → Nat → Prop) : Prop :=
  ¬ n < 0 ∧ n.toNatClampNeg ≤ 10000 ∧ am_g h = 0 ∧ c + 1 ≤ am_mc M ∧ u + n.toNatClampNeg ≤ am_ms M ∧ f (am_add h t n.toNatClampNeg) (c + 1) (u + n.toNatClampNeg)
/-- an instruction that moves the operand stack alone, or the place -/
def am_dflt (k : Nat → List (Nat × Value) → List Value → am_H → Nat → Nat → Prop) (ins : Instr) (len pc : Nat) (al : List (Nat × Value)) (st : List Value) (h : am_H) (c u : Nat) : Prop := match am_pure ins st with
  | some q => len = q.1 ∧ k (pc + len) al q.2 h c u
  | none => (match am_br ins st with
    | some q => len = 3 ∧ am_tg pc q.2.1 (fun t => if q.1 = true then k t al q.2.2 h c u else k (pc + 3) al q.2.2 h c u)
    | none => (match am_sw ins st with
      | some q => am_tg pc q.1 (fun t => k t al q.2 h c u)
      | none => False))
/-- one instruction: what must hold so that the rest k, or the end Q, is reached -/
def am_do (C : Nat → List Value → am_H → am_O → am_H → Prop) (G : am_G) (M : am_M) (k : Nat → List (Nat × Value) → List Value → am_H → Nat → Nat → Prop) (Q : am_O → am_H → Prop) (ins : Instr) (len pc : Nat) (al : List (Nat × Value)) (st : List Value) (h : am_H) (c u : Nat) : Prop :=
  match ins with
  | .iload_n i => len = 1 ∧ am_vi (am_lk al i) (fun x => k (pc + 1) al (.int x :: st) h c u)
  | .iload i => len = 2 ∧ am_vi (am_lk al i) (fun x => k (pc + 2) al (.int x :: st) h c u)
  | .lload_n i => len = 1 ∧ am_vl (am_lk al i) (fun x => k (pc + 1) al (.long x :: st) h c u)
  | .lload i => len = 2 ∧ am_vl (am_lk al i) (fun x => k (pc + 2) al (.long x :: st) h c u)
  | .aload_n i => len = 1 ∧ am_vr (am_lk al i) (fun x => k (pc + 1) al (.ref x :: st) h c u)
  | .aload i => len = 2 ∧ am_vr (am_lk al i) (fun x => k (pc + 2) al (.ref x :: st) h c u)
  | .istore_n i => len = 1 ∧ (i : Nat) < am_mL M ∧ am_sti st (fun x r => k (pc + 1) (am_s1 al i (.int x)) r h c u)
  | .istore i => len = 2 ∧ i < am_mL M ∧ am_sti st (fun x r => k (pc + 2) (am_s1 al i (.int x)) r h c u)
  | .astore_n i => len = 1 ∧ (i : Nat) < am_mL M ∧ am_str st (fun x r => k (pc + 1) (am_s1 al i (.ref x)) r h c u)
  | .astore i => len = 2 ∧ i < am_mL M ∧ am_str st (fun x r => k (pc + 2) (am_s1 al i (.ref x)) r h c u)
  | .iinc i n => len = 3 ∧ i < am_mL M ∧ am_vi (am_lk al i) (fun x => k (pc + 3) (am_s1 al i (.int (x + Int32.ofInt n))) st h c u)
  | .irem => len = 1 ∧ (match st with
    | .int y :: .int x :: r => ¬ y = 0 ∧ k (pc + 1) al (.int (x - x / y * y) :: r) h c u
    | _ => False)
  | .ldc i => len = 2 ∧ am_vi (am_kc G (am_o M) i) (fun x => k (pc + 2) al (.int x :: st) h c u)
  | .ldc_w i => len = 3 ∧ am_vi (am_kc G (am_o M) i) (fun x => k (pc + 3) al (.int x :: st) h c u)
  | .ldc2_w i => len = 3 ∧ am_vl (am_kc G (am_o M) i) (fun x => k (pc + 3) al (.long x :: st) h c u)
  | .getfield i => len = 3 ∧ am_str st (fun a r => am_get G M i h a (fun v => k (pc + 3) al (v :: r) h c u))
  | .putfield i => len = 3 ∧ am_stv st (fun v a r => am_put G M i h a v (fun h' => k (pc + 3) al r h' c u))
  | .iaload => len = 1 ∧ am_sti st (fun i r => am_str r (fun a r => am_ald G .iaload h i a (fun v => k (pc + 1) al (v :: r) h c u)))
  | .baload => len = 1 ∧ am_sti st (fun i r => am_str r (fun a r => am_ald G .baload h i a (fun v => k (pc + 1) al (v :: r) h c u)))
  | .laload => len = 1 ∧ am_sti st (fun i r => am_str r (fun a r => am_ald G .laload h i a (fun v => k (pc + 1) al (v :: r) h c u)))
  | .aaload => len = 1 ∧ am_sti st (fun i r => am_str r (fun a r => am_ald G .aaload h i a (fun v => k (pc + 1) al (v :: r) h c u)))
  | .iastore => len = 1 ∧ (match st with
    | v :: r => am_sti r (fun i r => am_str r (fun a r => am_ast G .iastore h v i a (fun h' => k (pc + 1) al r h' c u)))
    | _ => False)
  | .bastore => len = 1 ∧ (match st with
    | v :: r => am_sti r (fun i r => am_str r (fun a r => am_ast G .bastore h v i a (fun h' => k (pc + 1) al r h' c u)))
    | _ => False)
  | .lastore => len = 1 ∧ (match st with
    | v :: r => am_sti r (fun i r => am_str r (fun a r => am_ast G .lastore h v i a (fun h' => k (pc + 1) al r h' c u)))
    | _ => False)
  | .aastore => len = 1 ∧ (match st with
    | v :: r => am_sti r (fun i r => am_str r (fun a r => am_ast G .aastore h v i a (fun h' => k (pc + 1) al r h' c u)))
    | _ => False)
  | .arraylength => len = 1 ∧ am_str st (fun a r => am_so (am_sh h a) (fun q => (100 ≤ q.1 ∧ q.1 ≤ 104 ∨ (q.1 = 150 ∧ a = 0)) ∧ k (pc + 1) al (.int (Int32.ofNat q.2) :: r) h c u))
  | .new i => len = 3 ∧ (match am_pl G (am_o M) i with
    | (3, ci, _, _) => am_g h = 0 ∧ c + 1 ≤ am_mc M ∧ u + am_nf G ci ≤ am_ms M ∧ ci < 100 ∧ k (pc + 3) al (.ref (am_n h + 1) :: st) (am_add h ci (am_nf G ci)) (c + 1) (u + am_nf G ci)
    | (5, x, ic, _) => am_hs M = [] ∧ c + 1 ≤ am_mc M ∧ u + 6 ≤ am_ms M ∧ am_w8 st ≤ 8 ∧ decode (am_b M) (pc + 3) = .ok (.dup, 1) ∧ decode (am_b M) (pc + 4) = .ok (.invokespecial ic, 3) ∧ decode (am_b M) (pc + 7) = .ok (.athrow, 1) ∧ Q (.inr x) (am_setG h (am_g h + 1))
    | _ => False)
  | .newarray ty => len = 2 ∧ am_sti st (fun n r => (match ty with
    | .int => am_newa M 100 n h c u (fun h' c' u' => k (pc + 2) al (.ref (am_n h + 1) :: r) h' c' u')
    | .boolean => am_newa M 101 n h c u (fun h' c' u' => k (pc + 2) al (.ref (am_n h + 1) :: r) h' c' u')
    | .long => am_newa M 102 n h c u (fun h' c' u' => k (pc + 2) al (.ref (am_n h + 1) :: r) h' c' u')
    | _ => False))
  | .anewarray i => len = 3 ∧ am_sti st (fun n r => (match am_pl G (am_o M) i with
    | (3, _, t, _) => (t = 103 ∨ t = 104) ∧ am_newa M t n h c u (fun h' c' u' => k (pc + 3) al (.ref (am_n h + 1) :: r) h' c' u')
    | _ => False))
  | .invokestatic i => len = 3 ∧ (match am_pl G (am_o M) i with
    | (2, j, 1, _) => am_np (am_mt G j) ≤ st.length ∧ am_inv C G M k Q j (st.take (am_np (am_mt G j))).reverse pc al (st.drop (am_np (am_mt G j))) h c u
    | (2, j, 4, _) => am_np (am_mt G j) ≤ st.length ∧ am_inv C G M k Q j (st.take (am_np (am_mt G j))).reverse pc al (st.drop (am_np (am_mt G j))) h c u
    | (8, _, _, _) => am_cpy h st (fun h' r => k (pc + 3) al r h' c u)
    | (10, _, _, _) => am_sti st (fun y r => am_sti r (fun x r => am_w8 r ≤ 8 ∧ k (pc + 3) al (.int (if y < x then y else x) :: r) h c u))
    | (11, _, _, _) => am_sti st (fun y r => am_sti r (fun x r => am_w8 r ≤ 8 ∧ k (pc + 3) al (.int (if x < y then y else x) :: r) h c u))
    | _ => False)
  | .invokevirtual i => len = 3 ∧ (match am_pl G (am_o M) i with
    | (2, j, 0, _) => am_np (am_mt G j) ≤ st.length ∧ am_str (st.drop (am_np (am_mt G j))) (fun b r => am_sh h b = some (am_o (am_mt G j), am_nf G (am_o (am_mt G j))) ∧ am_inv C G M k Q j (.ref b :: (st.take (am_np (am_mt G j))).reverse) pc al r h c u)
    | (2, j, 3, _) => am_np (am_mt G j) ≤ st.length ∧ am_str (st.drop (am_np (am_mt G j))) (fun b r => am_sh h b = some (am_o (am_mt G j), am_nf G (am_o (am_mt G j))) ∧ am_inv C G M k Q j (.ref b :: (st.take (am_np (am_mt G j))).reverse) pc al r h c u)
    | _ => False)
  | .invokespecial i => len = 3 ∧ (match am_pl G (am_o M) i with
    | (2, j, 2, _) => am_np (am_mt G j) ≤ st.length ∧ am_str (st.drop (am_np (am_mt G j))) (fun b r => am_inv C G M k Q j (.ref b :: (st.take (am_np (am_mt G j))).reverse) pc al r h c u)
    | (7, _, _, _) => am_str st (fun _ r => am_w8 r ≤ 8 ∧ k (pc + 3) al r h c u)
    | _ => False)
  | .ireturn => len = 1 ∧ (match st with
    | [.int x] => (match am_rt M with
      | some .int => Q (.inl (some (.int x))) h
      | some .boolean => (x = 0 ∨ x = 1) ∧ Q (.inl (some (.int x))) h
      | _ => False)
    | _ => False)
  | .areturn => len = 1 ∧ (match st with
    | [.ref a] => (match am_rt M with
      | some (.object _) => Q (.inl (some (.ref a))) h
      | _ => False)
    | _ => False)
  | .return_ => len = 1 ∧ (match st with
    | [] => am_rt M = none ∧ Q (.inl none) h
    | _ => False)
  | _ => am_dflt k ins len pc al st h c u
/-- the instructions that am_dflt is for -/
def am_isd : Instr → Bool
  | .iload_n _ => false
  | .iload _ => false
  | .lload_n _ => false
  | .lload _ => false
  | .aload_n _ => false
  | .aload _ => false
  | .istore_n _ => false
  | .istore _ => false
  | .astore_n _ => false
  | .astore _ => false
  | .ldc _ => false
  | .ldc_w _ => false
  | .ldc2_w _ => false
  | .getfield _ => false
  | .putfield _ => false
  | .new _ => false
  | .newarray _ => false
  | .anewarray _ => false
  | .invokestatic _ => false
  | .invokevirtual _ => false
  | .invokespecial _ => false
  | .iinc _ _ => false
  | .irem => false
  | .iaload => false
  | .baload => false
  | .laload => false
  | .aaload => false
  | .iastore => false
  | .bastore => false
  | .lastore => false
  | .aastore => false
  | .arraylength => false
  | .ireturn => false
  | .areturn => false
  | .return_ => false
  | _ => true
theorem am_do_d {C : Nat → List Value → am_H → am_O → am_H → Prop} {G : am_G} {M : am_M} {k : Nat → List (Nat × Value) → List Value → am_H → Nat → Nat → Prop} {Q : am_O → am_H → Prop} {ins : Instr} (hd : am_isd ins = true) {len pc : Nat} {al : List (Nat × Value)} {st : List Value} {h : am_H} {c u : Nat} : am_do C G M k Q ins len pc al st h c u = am_dflt k ins len pc al st h c u := by
  cases ins <;> first | rfl | cases hd
def am_step (C : Nat → List Value → am_H → am_O → am_H → Prop) (G : am_G) (M : am_M) (k : Nat → List (Nat × Value) → List Value → am_H → Nat → Nat → Prop) (Q : am_O → am_H → Prop) (pc : Nat) (al : List (Nat × Value)) (st : List Value) (h : am_H) (c u : Nat) : Prop :=
  match decode (am_b M) pc with
  | .ok q => am_do C G M k Q q.1 q.2 pc al st h c u
  | .error _ => False
/-- from here the method comes to an end with Q: whatever is closed under steps backwards holds here -/
def am_T (C : Nat → List Value → am_H → am_O → am_H → Prop) (G : am_G) (M : am_M) (Q : am_O → am_H → Prop) (pc : Nat) (al : List (Nat × Value)) (st : List Value) (h : am_H) (c u : Nat) : Prop :=
  ∀ K : Nat → List (Nat × Value) → List Value → am_H → Nat → Nat → Prop, (∀ pc al st h c u, am_step C G M K Q pc al st h c u → K pc al st h c u) → K pc al st h c u
/-- method j at as in h ends with o in h', by calls at most d deep -/
def am_C (G : am_G) : Nat → Nat → List Value → am_H → am_O → am_H → Prop
  | 0 => fun _ _ _ _ _ => False
  | d + 1 => fun j as h o h' => am_w8 as ≤ am_mL (am_mt G j) ∧ (∀ x, o = .inr x → 5 < d + 1) ∧ am_T (am_C G d) G (am_mt G j) (fun o1 h1 => o1 = o ∧ h1 = h') 0 (lv_args 0 as) [] h 0 0
end
section
/-! Part 11: a step of the machine goes on at one place, or ends once -/
theorem am_vi_s {o : Option Value} {f : Int32 → Prop} (h : am_vi o f) : ∃ x, o = some (.int x) ∧ f x := by
  cases o with
  | none => exact h.elim
  | some v => cases v <;> first | exact ⟨_, rfl, h⟩ | exact h.elim
theorem am_vl_s {o : Option Value} {f : Int64 → Prop} (h : am_vl o f) : ∃ x, o = some (.long x) ∧ f x := by
  cases o with
  | none => exact h.elim
  | some v => cases v <;> first | exact ⟨_, rfl, h⟩ | exact h.elim
theorem am_vr_s {o : Option Value} {f : Nat → Prop} (h : am_vr o f) : ∃ x, o = some (.ref x) ∧ f x := by
  cases o with
  | none => exact h.elim
  | some v => cases v <;> first | exact ⟨_, rfl, h⟩ | exact h.elim
theorem am_so_s {α : Type} {o : Option α} {f : α → Prop} (h : am_so o f) : ∃ x, o = some x ∧ f x := by
  cases o with
  | none => exact h.elim
  | some v => exact ⟨_, rfl, h⟩
theorem am_sti_s {st : List Value} {f : Int32 → List Value → Prop} (h : am_sti st f) : ∃ x r, st = .int x :: r ∧ f x r := by
  cases st with
  | nil => exact h.elim
  | cons v r => cases v <;> first | exact ⟨_, _, rfl, h⟩ | exact h.elim
theorem am_str_s {st : List Value} {f : Nat → List Value → Prop} (h : am_str st f) : ∃ x r, st = .ref x :: r ∧ f x r := by
  cases st with
  | nil => exact h.elim
  | cons v r => cases v <;> first | exact ⟨_, _, rfl, h⟩ | exact h.elim
theorem am_stv_s {st : List Value} {f : Value → Nat → List Value → Prop} (h : am_stv st f) : ∃ v a r, st = v :: .ref a :: r ∧ f v a r := by
  cases st with
  | nil => exact h.elim
  | cons v r =>
    cases r with
    | nil => cases v <;> exact h.elim
    | cons w r => cases w <;> first | exact ⟨_, _, _, rfl, h⟩ | (cases v <;> exact h.elim)
/-- one use of what comes next -/
def am_One (P : (Nat → List (Nat × Value) → List Value → am_H → Nat → Nat → Prop) → (am_O → am_H → Prop) → Prop) (K : Nat → List (Nat × Value) → List Value → am_H → Nat → Nat → Prop) (Q : am_O → am_H → Prop) : Prop :=
  (∃ pc al st h c u, K pc al st h c u ∧ ∀ K' Q', K' pc al st h c u → P K' Q') ∨ (∃ o h, Q o h ∧ ∀ K' Q', Q' o h → P K' Q')
theorem am_One_k {P : (Nat → List (Nat × Value) → List Value → am_H → Nat → Nat → Prop) → (am_O → am_H → Prop) → Prop} {K : Nat → List (Nat × Value) → List Value → am_H → Nat → Nat → Prop} {Q : am_O → am_H → Prop} {pc : Nat} {al : List (Nat × Value)} {st : List Value} {h : am_H} {c u : Nat} (hk : K pc al st h c u) (hp : ∀ K' Q', K' pc al st h c u → P K' Q') : am_One P K Q := Or.inl ⟨pc, al, st, h, c, u, hk, hp⟩
theorem am_One_q {P : (Nat → List (Nat × Value) → List Value → am_H → Nat → Nat → Prop) → (am_O → am_H → Prop) → Prop} {K : Nat → List (Nat × Value) → List Value → am_H → Nat → Nat → Prop} {Q : am_O → am_H → Prop} {o : am_O} {h : am_H} (hk : Q o h) (hp : ∀ K' Q', Q' o h → P K' Q') : am_One P K Q := Or.inr ⟨o, h, hk, hp⟩
section AMO
variable {C C2 : Nat → List Value → am_H → am_O → am_H → Prop} {G : am_G} {M : am_M} {K : Nat → List (Nat × Value) → List Value → am_H → Nat → Nat → Prop} {Q : am_O → am_H → Prop}
theorem am_one_dflt {ins : Instr} {len pc c u : Nat} {al : List (Nat × Value)} {st : List Value} {h : am_H} (hh : am_dflt K ins len pc al st h c u) : am_One (fun K' _ => am_dflt K' ins len pc al st h c u) K Q := by
  unfold am_dflt at hh
  split at hh
  · rename_i q hq
    exact am_One_k hh.2 (fun K' Q' h' => by unfold am_dflt; rw [hq]; exact ⟨hh.1, h'⟩)
  · rename_i hp
    split at hh
    · rename_i q hq
      obtain ⟨h1, h2, h3⟩ := hh
      by_cases hb : q.1 = true
      · rw [if_pos hb] at h3
        exact am_One_k h3 (fun K' Q' h' => by unfold am_dflt; rw [hp, hq]; exact ⟨h1, h2, by dsimp only; rw [if_pos hb]; exact h'⟩)
      · rw [if_neg hb] at h3
        exact am_One_k h3 (fun K' Q' h' => by unfold am_dflt; rw [hp, hq]; exact ⟨h1, h2, by dsimp only; rw [if_neg hb]; exact h'⟩)
    · rename_i hb
      split at hh
      · rename_i q hq
        exact am_One_k hh.2 (fun K' Q' h' => by unfold am_dflt; rw [hp, hb, hq]; exact ⟨hh.1, h'⟩)
      · exact hh.elim
theorem am_one_inv (hCC : ∀ j as h o h', C j as h o h' → C2 j as h o h') {j : Nat} {as : List Value} {pc : Nat} {al : List (Nat × Value)} {rest : List Value} {h : am_H} {c u : Nat} (hh : am_inv C G M K Q j as pc al rest h c u) : am_One (fun K' Q' => am_inv C2 G M K' Q' j as pc al rest h c u) K Q := by
  obtain ⟨h1, h2, h3, o, h', h4, h5⟩ := hh
  have h4 := hCC _ _ _ _ _ h4
  cases o with
  | inl v => exact am_One_k h5 (fun K' Q' h9 => ⟨h1, h2, h3, _, _, h4, h9⟩)
  | inr x =>
    unfold am_cont at h5
    simp only at h5
    split at h5
    · rename_i t ht
      exact am_One_k h5.2 (fun K' Q' h9 => ⟨h1, h2, h3, _, _, h4, by unfold am_cont; simp only; rw [ht]; exact ⟨h5.1, h9⟩⟩)
    · rename_i ht
      exact am_One_q h5.2 (fun K' Q' h9 => ⟨h1, h2, h3, _, _, h4, by unfold am_cont; simp only; rw [ht]; exact ⟨h5.1, h9⟩⟩)
set_option maxHeartbeats 4000000 in
theorem am_one_do (hCC : ∀ j as h o h', C j as h o h' → C2 j as h o h') {ins : Instr} {len pc c u : Nat} {al : List (Nat × Value)} {st : List Value} {h : am_H} (hh : am_do C G M K Q ins len pc al st h c u) : am_One (fun K' Q' => am_do C2 G M K' Q' ins len pc al st h c u) K Q := by
  cases ins with
  | iload_n i =>
    obtain ⟨h0, hh⟩ := hh
    obtain ⟨x, h1, h2⟩ := am_vi_s hh
    exact am_One_k h2 (fun K' Q' h9 => ⟨h0, by rw [h1]; exact h9⟩)
  | iload i =>
    obtain ⟨h0, hh⟩ := hh
    obtain ⟨x, h1, h2⟩ := am_vi_s hh
    exact am_One_k h2 (fun K' Q' h9 => ⟨h0, by rw [h1]; exact h9⟩)
  | lload_n i =>
    obtain ⟨h0, hh⟩ := hh
    obtain ⟨x, h1, h2⟩ := am_vl_s hh
    exact am_One_k h2 (fun K' Q' h9 => ⟨h0, by rw [h1]; exact h9⟩)
  | lload i =>
    obtain ⟨h0, hh⟩ := hh
    obtain ⟨x, h1, h2⟩ := am_vl_s hh
    exact am_One_k h2 (fun K' Q' h9 => ⟨h0, by rw [h1]; exact h9⟩)
  | aload_n i =>
    obtain ⟨h0, hh⟩ := hh
    obtain ⟨x, h1, h2⟩ := am_vr_s hh
    exact am_One_k h2 (fun K' Q' h9 => ⟨h0, by rw [h1]; exact h9⟩)
  | aload i =>
    obtain ⟨h0, hh⟩ := hh
    obtain ⟨x, h1, h2⟩ := am_vr_s hh
    exact am_One_k h2 (fun K' Q' h9 => ⟨h0, by rw [h1]; exact h9⟩)
  | istore_n i =>
    obtain ⟨h0, hi, hh⟩ := hh
    obtain ⟨x, r, rfl, h2⟩ := am_sti_s hh
    exact am_One_k h2 (fun K' Q' h9 => ⟨h0, hi, h9⟩)
  | istore i =>
    obtain ⟨h0, hi, hh⟩ := hh
    obtain ⟨x, r, rfl, h2⟩ := am_sti_s hh
    exact am_One_k h2 (fun K' Q' h9 => ⟨h0, hi, h9⟩)
  | astore_n i =>
    obtain ⟨h0, hi, hh⟩ := hh
    obtain ⟨x, r, rfl, h2⟩ := am_str_s hh
    exact am_One_k h2 (fun K' Q' h9 => ⟨h0, hi, h9⟩)
  | astore i =>
    obtain ⟨h0, hi, hh⟩ := hh
    obtain ⟨x, r, rfl, h2⟩ := am_str_s hh
    exact am_One_k h2 (fun K' Q' h9 => ⟨h0, hi, h9⟩)
  | iinc i n =>
    obtain ⟨h0, hi, hh⟩ := hh
    obtain ⟨x, h1, h2⟩ := am_vi_s hh
    exact am_One_k h2 (fun K' Q' h9 => ⟨h0, hi, by rw [h1]; exact h9⟩)
  | irem =>
    obtain ⟨h0, hh⟩ := hh
    split at hh
    · exact am_One_k hh.2 (fun K' Q' h9 => ⟨h0, hh.1, h9⟩)
    · exact hh.elim
  | ldc i =>
    obtain ⟨h0, hh⟩ := hh
    obtain ⟨x, h1, h2⟩ := am_vi_s hh
    exact am_One_k h2 (fun K' Q' h9 => ⟨h0, by rw [h1]; exact h9⟩)
  | ldc_w i =>
    obtain ⟨h0, hh⟩ := hh
    obtain ⟨x, h1, h2⟩ := am_vi_s hh
    exact am_One_k h2 (fun K' Q' h9 => ⟨h0, by rw [h1]; exact h9⟩)
  | ldc2_w i =>
    obtain ⟨h0, hh⟩ := hh
    obtain ⟨x, h1, h2⟩ := am_vl_s hh
    exact am_One_k h2 (fun K' Q' h9 => ⟨h0, by rw [h1]; exact h9⟩)
  | getfield i =>
    obtain ⟨h0, hh⟩ := hh
    obtain ⟨a, r, rfl, hh⟩ := am_str_s hh
    unfold am_get at hh
    split at hh
    · rename_i ci fi hpl
      obtain ⟨h1, h2, hh⟩ := hh
      by_cases h9 : am_ft G ci fi % 10 = 2
      · rw [if_pos h9] at hh
        obtain ⟨j, hj, hh⟩ := am_so_s hh
        exact am_One_k hh (fun K' Q' h8 => ⟨h0, by simp only [am_str]; unfold am_get; rw [hpl]; exact ⟨h1, h2, by rw [if_pos h9, hj]; exact h8⟩⟩)
      · rw [if_neg h9] at hh
        exact am_One_k hh (fun K' Q' h8 => ⟨h0, by simp only [am_str]; unfold am_get; rw [hpl]; exact ⟨h1, h2, by rw [if_neg h9]; exact h8⟩⟩)
    · exact hh.elim
  | putfield i =>
    obtain ⟨h0, hh⟩ := hh
    obtain ⟨v, a, r, rfl, hh⟩ := am_stv_s hh
    unfold am_put at hh
    split at hh
    · rename_i ci fi hpl
      obtain ⟨h1, h2, h3, hh⟩ := hh
      split at hh
      · exact am_One_k hh.2 (fun K' Q' h8 => ⟨h0, by simp only [am_stv]; unfold am_put; rw [hpl]; exact ⟨h1, h2, h3, hh.1, h8⟩⟩)
      · exact am_One_k hh.2 (fun K' Q' h8 => ⟨h0, by simp only [am_stv]; unfold am_put; rw [hpl]; exact ⟨h1, h2, h3, hh.1, h8⟩⟩)
      · exact hh.elim
    · exact hh.elim
  | iaload =>
    obtain ⟨h0, hh⟩ := hh
    obtain ⟨i, r, rfl, hh⟩ := am_sti_s hh
    obtain ⟨a, r, rfl, hh⟩ := am_str_s hh
    obtain ⟨q, hs, h1, h2, hh⟩ := am_so_s hh
    exact am_One_k hh (fun K' Q' h8 => ⟨h0, by simp only [am_sti, am_str, am_ald, hs]; exact ⟨h1, h2, h8⟩⟩)
  | baload =>
    obtain ⟨h0, hh⟩ := hh
    obtain ⟨i, r, rfl, hh⟩ := am_sti_s hh
    obtain ⟨a, r, rfl, hh⟩ := am_str_s hh
    obtain ⟨q, hs, h1, h2, hh⟩ := am_so_s hh
    exact am_One_k hh (fun K' Q' h8 => ⟨h0, by simp only [am_sti, am_str, am_ald, hs]; exact ⟨h1, h2, h8⟩⟩)
  | laload =>
    obtain ⟨h0, hh⟩ := hh
    obtain ⟨i, r, rfl, hh⟩ := am_sti_s hh
    obtain ⟨a, r, rfl, hh⟩ := am_str_s hh
    obtain ⟨q, hs, h1, h2, hh⟩ := am_so_s hh
    exact am_One_k hh (fun K' Q' h8 => ⟨h0, by simp only [am_sti, am_str, am_ald, hs]; exact ⟨h1, h2, h8⟩⟩)
  | aaload =>
    obtain ⟨h0, hh⟩ := hh
    obtain ⟨i, r, rfl, hh⟩ := am_sti_s hh
    obtain ⟨a, r, rfl, hh⟩ := am_str_s hh
    obtain ⟨q, hs, h1, h2, hh⟩ := am_so_s hh
    obtain ⟨j, hj, hh⟩ := am_so_s hh
    exact am_One_k hh (fun K' Q' h8 => ⟨h0, by simp only [am_sti, am_str, am_ald, hs]; exact ⟨h1, h2, by rw [hj]; exact h8⟩⟩)
  | iastore =>
    obtain ⟨h0, hh⟩ := hh
    cases st with
    | nil => exact hh.elim
    | cons v r =>
      obtain ⟨i, r, rfl, hh⟩ := am_sti_s hh
      obtain ⟨a, r, rfl, hh⟩ := am_str_s hh
      obtain ⟨q, hs, h1, hh⟩ := am_so_s hh
      cases v with
      | int x =>
        obtain ⟨h2, hh⟩ := hh
        exact am_One_k hh (fun K' Q' h8 => ⟨h0, by simp only [am_sti, am_str, am_ast, hs]; exact ⟨h1, h2, h8⟩⟩)
      | _ => exact hh.elim
  | bastore =>
    obtain ⟨h0, hh⟩ := hh
    cases st with
    | nil => exact hh.elim
    | cons v r =>
      obtain ⟨i, r, rfl, hh⟩ := am_sti_s hh
      obtain ⟨a, r, rfl, hh⟩ := am_str_s hh
      obtain ⟨q, hs, h1, hh⟩ := am_so_s hh
      cases v with
      | int x =>
        obtain ⟨h2, hh⟩ := hh
        exact am_One_k hh (fun K' Q' h8 => ⟨h0, by simp only [am_sti, am_str, am_ast, hs]; exact ⟨h1, h2, h8⟩⟩)
      | _ => exact hh.elim
  | lastore =>
    obtain ⟨h0, hh⟩ := hh
    cases st with
    | nil => exact hh.elim
    | cons v r =>
      obtain ⟨i, r, rfl, hh⟩ := am_sti_s hh
      obtain ⟨a, r, rfl, hh⟩ := am_str_s hh
      obtain ⟨q, hs, h1, hh⟩ := am_so_s hh
      cases v with
      | long x =>
        obtain ⟨h2, hh⟩ := hh
        exact am_One_k hh (fun K' Q' h8 => ⟨h0, by simp only [am_sti, am_str, am_ast, hs]; exact ⟨h1, h2, h8⟩⟩)
      | _ => exact hh.elim
  | aastore =>
    obtain ⟨h0, hh⟩ := hh
    cases st with
    | nil => exact hh.elim
    | cons v r =>
      obtain ⟨i, r, rfl, hh⟩ := am_sti_s hh
      obtain ⟨a, r, rfl, hh⟩ := am_str_s hh
      obtain ⟨q, hs, h1, hh⟩ := am_so_s hh
      cases v with
      | ref x =>
        obtain ⟨h2, h3, h4, hh⟩ := hh
        exact am_One_k hh (fun K' Q' h8 => ⟨h0, by simp only [am_sti, am_str, am_ast, hs]; exact ⟨h1, h2, h3, h4, h8⟩⟩)
      | _ => exact hh.elim
  | arraylength =>
    obtain ⟨h0, hh⟩ := hh
    obtain ⟨a, r, rfl, hh⟩ := am_str_s hh
    obtain ⟨q, hq, h1, hh⟩ := am_so_s hh
    exact am_One_k hh (fun K' Q' h8 => ⟨h0, by simp only [am_str]; rw [hq]; exact ⟨h1, h8⟩⟩)
  | new i =>
    obtain ⟨h0, hh⟩ := hh
    split at hh
    · rename_i ci z1 z2 hpl
      obtain ⟨h1, h2, h3, h4, hh⟩ := hh
      exact am_One_k hh (fun K' Q' h8 => ⟨h0, by rw [hpl]; exact ⟨h1, h2, h3, h4, h8⟩⟩)
    · rename_i x ic z hpl
      obtain ⟨h1, h2, h3, h4, h5, h6, h7, hh⟩ := hh
      exact am_One_q hh (fun K' Q' h8 => ⟨h0, by rw [hpl]; exact ⟨h1, h2, h3, h4, h5, h6, h7, h8⟩⟩)
    · exact hh.elim
  | newarray ty =>
    obtain ⟨h0, hh⟩ := hh
    obtain ⟨n, r, rfl, hh⟩ := am_sti_s hh
    cases ty with
    | int =>
      obtain ⟨h1, h2, h3, h4, h5, hh⟩ := hh
      exact am_One_k hh (fun K' Q' h8 => ⟨h0, h1, h2, h3, h4, h5, h8⟩)
    | boolean =>
      obtain ⟨h1, h2, h3, h4, h5, hh⟩ := hh
      exact am_One_k hh (fun K' Q' h8 => ⟨h0, h1, h2, h3, h4, h5, h8⟩)
    | long =>
      obtain ⟨h1, h2, h3, h4, h5, hh⟩ := hh
      exact am_One_k hh (fun K' Q' h8 => ⟨h0, h1, h2, h3, h4, h5, h8⟩)
    | _ => exact hh.elim
  | anewarray i =>
    obtain ⟨h0, hh⟩ := hh
    obtain ⟨n, r, rfl, hh⟩ := am_sti_s hh
    split at hh
    · rename_i z1 t z2 hpl
      obtain ⟨h6, h1, h2, h3, h4, h5, hh⟩ := hh
      exact am_One_k hh (fun K' Q' h8 => ⟨h0, by simp only [am_sti]; rw [hpl]; exact ⟨h6, h1, h2, h3, h4, h5, h8⟩⟩)
    · exact hh.elim
  | invokestatic i =>
    obtain ⟨h0, hh⟩ := hh
    split at hh
    · rename_i j z1 hpl
      obtain ⟨h1, hh⟩ := hh
      rcases am_one_inv hCC hh with ⟨a1, a2, a3, a4, a5, a6, a7, a8⟩ | ⟨a1, a2, a7, a8⟩
      · exact am_One_k a7 (fun K' Q' h8 => ⟨h0, by rw [hpl]; exact ⟨h1, a8 K' Q' h8⟩⟩)
      · exact am_One_q a7 (fun K' Q' h8 => ⟨h0, by rw [hpl]; exact ⟨h1, a8 K' Q' h8⟩⟩)
    · rename_i j z1 hpl
      obtain ⟨h1, hh⟩ := hh
      rcases am_one_inv hCC hh with ⟨a1, a2, a3, a4, a5, a6, a7, a8⟩ | ⟨a1, a2, a7, a8⟩
      · exact am_One_k a7 (fun K' Q' h8 => ⟨h0, by rw [hpl]; exact ⟨h1, a8 K' Q' h8⟩⟩)
      · exact am_One_q a7 (fun K' Q' h8 => ⟨h0, by rw [hpl]; exact ⟨h1, a8 K' Q' h8⟩⟩)
    · rename_i z1 z2 z3 hpl
      unfold am_cpy at hh
      split at hh
      · obtain ⟨n0, n1, g1, g2, g3, g4, g5, g6, g7, g8, hh⟩ := hh
        exact am_One_k hh (fun K' Q' h8 => ⟨h0, by rw [hpl]; exact ⟨n0, n1, g1, g2, g3, g4, g5, g6, g7, g8, h8⟩⟩)
      · exact hh.elim
    · rename_i z1 z2 z3 hpl
      obtain ⟨y, r, rfl, hh2⟩ := am_sti_s hh
      obtain ⟨x, r2, rfl, h1, hh3⟩ := am_sti_s hh2
      exact am_One_k hh3 (fun K' Q' h8 => ⟨h0, by rw [hpl]; exact ⟨h1, h8⟩⟩)
    · rename_i z1 z2 z3 hpl
      obtain ⟨y, r, rfl, hh2⟩ := am_sti_s hh
      obtain ⟨x, r2, rfl, h1, hh3⟩ := am_sti_s hh2
      exact am_One_k hh3 (fun K' Q' h8 => ⟨h0, by rw [hpl]; exact ⟨h1, h8⟩⟩)
    · exact hh.elim
  | invokevirtual i =>
    obtain ⟨h0, hh⟩ := hh
    split at hh
    · rename_i j z1 hpl
      obtain ⟨h1, hh⟩ := hh
      obtain ⟨bb, r, hdr, h2, hh⟩ := am_str_s hh
      rcases am_one_inv hCC hh with ⟨a1, a2, a3, a4, a5, a6, a7, a8⟩ | ⟨a1, a2, a7, a8⟩
      · exact am_One_k a7 (fun K' Q' h8 => ⟨h0, by rw [hpl]; exact ⟨h1, by rw [hdr]; exact ⟨h2, a8 K' Q' h8⟩⟩⟩)
      · exact am_One_q a7 (fun K' Q' h8 => ⟨h0, by rw [hpl]; exact ⟨h1, by rw [hdr]; exact ⟨h2, a8 K' Q' h8⟩⟩⟩)
    · rename_i j z1 hpl
      obtain ⟨h1, hh⟩ := hh
      obtain ⟨bb, r, hdr, h2, hh⟩ := am_str_s hh
      rcases am_one_inv hCC hh with ⟨a1, a2, a3, a4, a5, a6, a7, a8⟩ | ⟨a1, a2, a7, a8⟩
      · exact am_One_k a7 (fun K' Q' h8 => ⟨h0, by rw [hpl]; exact ⟨h1, by rw [hdr]; exact ⟨h2, a8 K' Q' h8⟩⟩⟩)
      · exact am_One_q a7 (fun K' Q' h8 => ⟨h0, by rw [hpl]; exact ⟨h1, by rw [hdr]; exact ⟨h2, a8 K' Q' h8⟩⟩⟩)
    · exact hh.elim
  | invokespecial i =>
    obtain ⟨h0, hh⟩ := hh
    split at hh
    · rename_i j z1 hpl
      obtain ⟨h1, hh⟩ := hh
      obtain ⟨bb, r, hdr, hh⟩ := am_str_s hh
      rcases am_one_inv hCC hh with ⟨a1, a2, a3, a4, a5, a6, a7, a8⟩ | ⟨a1, a2, a7, a8⟩
      · exact am_One_k a7 (fun K' Q' h8 => ⟨h0, by rw [hpl]; exact ⟨h1, by rw [hdr]; exact a8 K' Q' h8⟩⟩)
      · exact am_One_q a7 (fun K' Q' h8 => ⟨h0, by rw [hpl]; exact ⟨h1, by rw [hdr]; exact a8 K' Q' h8⟩⟩)
    · rename_i z1 z2 z3 hpl
      obtain ⟨a, r, rfl, h1, hh⟩ := am_str_s hh
      exact am_One_k hh (fun K' Q' h8 => ⟨h0, by rw [hpl]; exact ⟨h1, h8⟩⟩)
    · exact hh.elim
  | ireturn =>
    obtain ⟨h0, hh⟩ := hh
    split at hh
    · split at hh
      · rename_i hrt
        exact am_One_q hh (fun K' Q' h8 => ⟨h0, by simp only; rw [hrt]; exact h8⟩)
      · rename_i hrt
        exact am_One_q hh.2 (fun K' Q' h8 => ⟨h0, by simp only; rw [hrt]; exact ⟨hh.1, h8⟩⟩)
      · exact hh.elim
    · exact hh.elim
  | areturn =>
    obtain ⟨h0, hh⟩ := hh
    split at hh
    · split at hh
      · rename_i nm hrt
        exact am_One_q hh (fun K' Q' h8 => ⟨h0, by simp only; rw [hrt]; exact h8⟩)
      · exact hh.elim
    · exact hh.elim
  | return_ =>
    obtain ⟨h0, hh⟩ := hh
    split at hh
    · exact am_One_q hh.2 (fun K' Q' h8 => ⟨h0, hh.1, h8⟩)
    · exact hh.elim
  | _ =>
    rw [am_do_d rfl] at hh
    rcases am_one_dflt (Q := Q) hh with ⟨a1, a2, a3, a4, a5, a6, a7, a8⟩ | ⟨a1, a2, a7, a8⟩
    · exact am_One_k a7 (fun K' Q' h8 => by rw [am_do_d rfl]; exact a8 K' Q' h8)
    · exact am_One_q a7 (fun K' Q' h8 => by rw [am_do_d rfl]; exact a8 K' Q' h8)
theorem am_one_step (hCC : ∀ j as h o h', C j as h o h' → C2 j as h o h') {pc c u : Nat} {al : List (Nat × Value)} {st : List Value} {h : am_H} (hh : am_step C G M K Q pc al st h c u) : am_One (fun K' Q' => am_step C2 G M K' Q' pc al st h c u) K Q := by
  unfold am_step at hh
  split at hh
  · rename_i q hq
    rcases am_one_do hCC hh with ⟨a1, a2, a3, a4, a5, a6, a7, a8⟩ | ⟨a1, a2, a7, a8⟩
    · exact am_One_k a7 (fun K' Q' h8 => by unfold am_step; rw [hq]; exact a8 K' Q' h8)
    · exact am_One_q a7 (fun K' Q' h8 => by unfold am_step; rw [hq]; exact a8 K' Q' h8)
  · exact hh.elim
/-- a step taken -/
theorem am_T_step {pc c u : Nat} {al : List (Nat × Value)} {st : List Value} {h : am_H} (hh : am_step C G M (am_T C G M Q) Q pc al st h c u) : am_T C G M Q pc al st h c u := by
  intro K hK
  refine hK _ _ _ _ _ _ ?_
  rcases am_one_step (C2 := C) (fun _ _ _ _ _ q => q) hh with ⟨a1, a2, a3, a4, a5, a6, a7, a8⟩ | ⟨a1, a2, a7, a8⟩
  · exact a8 K Q (a7 K hK)
  · exact a8 K Q a7
/-- another end, deeper calls -/
theorem am_T_mono (hCC : ∀ j as h o h', C j as h o h' → C2 j as h o h') {Q2 : am_O → am_H → Prop} (hQ : ∀ o h, Q o h → Q2 o h) {pc c u : Nat} {al : List (Nat × Value)} {st : List Value} {h : am_H} (hh : am_T C G M Q pc al st h c u) : am_T C2 G M Q2 pc al st h c u := by
  refine hh (am_T C2 G M Q2) (fun pc al st h c u hs => am_T_step ?_)
  rcases am_one_step hCC hs with ⟨a1, a2, a3, a4, a5, a6, a7, a8⟩ | ⟨a1, a2, a7, a8⟩
  · exact a8 _ _ a7
  · exact a8 _ _ (hQ _ _ a7)
/-- an end that is known by Q is one end -/
theorem am_T_ex {pc c u : Nat} {al : List (Nat × Value)} {st : List Value} {h : am_H} (hh : am_T C G M Q pc al st h c u) : ∃ o h', Q o h' ∧ am_T C G M (fun o1 h1 => o1 = o ∧ h1 = h') pc al st h c u := by
  refine hh (fun pc al st h c u => ∃ o h', Q o h' ∧ am_T C G M (fun o1 h1 => o1 = o ∧ h1 = h') pc al st h c u) (fun pc al st h c u hs => ?_)
  rcases am_one_step (C2 := C) (fun _ _ _ _ _ q => q) hs with ⟨a1, a2, a3, a4, a5, a6, ⟨o, h', g1, g2⟩, a8⟩ | ⟨o, h', a7, a8⟩
  · exact ⟨o, h', g1, am_T_step (a8 _ _ g2)⟩
  · exact ⟨o, h', a7, am_T_step (a8 _ _ ⟨rfl, rfl⟩)⟩
end AMO
theorem am_C_up (G : am_G) : ∀ (d j : Nat) (as : List Value) (h : am_H) (o : am_O) (h' : am_H), am_C G d j as h o h' → am_C G (d + 1) j as h o h' := by
  intro d
  induction d with
  | zero => exact fun _ _ _ _ _ q => q.elim
  | succ d ih =>
    intro j as h o h' q
    exact ⟨q.1, fun x hx => Nat.lt_succ_of_lt (q.2.1 x hx), am_T_mono ih (fun _ _ z => z) q.2.2⟩
/-- method j at as in h ends with Q, by calls at most d deep -/
def am_m (G : am_G) (d j : Nat) (as : List Value) (h : am_H) (Q : am_O → am_H → Prop) : Prop := ∃ o h', am_C G d j as h o h' ∧ Q o h'
theorem am_m_of {G : am_G} {d j : Nat} {as : List Value} {h : am_H} {Q : am_O → am_H → Prop} (h8 : am_w8 as ≤ am_mL (am_mt G j)) (hv : 5 < d + 1 ∨ ∀ o h', Q o h' → ∃ v, o = .inl v) (hh : am_T (am_C G d) G (am_mt G j) Q 0 (lv_args 0 as) [] h 0 0) : am_m G (d + 1) j as h Q := by
  obtain ⟨o, h', g1, g2⟩ := am_T_ex hh
  refine ⟨o, h', ⟨h8, fun x hx => ?_, g2⟩, g1⟩
  rcases hv with hv | hv
  · exact hv
  · obtain ⟨v, hv⟩ := hv o h' g1
    rw [hv] at hx
    cases hx
theorem am_m_up {G : am_G} {d d2 j : Nat} {as : List Value} {h : am_H} {Q Q2 : am_O → am_H → Prop} (hd : d ≤ d2) (hQ : ∀ o h', Q o h' → Q2 o h') (hh : am_m G d j as h Q) : am_m G d2 j as h Q2 := by
  obtain ⟨o, h', g1, g2⟩ := hh
  obtain ⟨k, rfl⟩ : ∃ k, d2 = d + k := ⟨d2 - d, by omega⟩
  clear hd
  refine ⟨o, h', ?_, hQ _ _ g2⟩
  clear g2 hQ
  induction k with
  | zero => exact g1
  | succ k ih => exact am_C_up G _ _ _ _ _ _ ih
end
section
/-! Part 20: the machine of part 10 and the JVM: the picture of a heap, and rows of loads, stores, branches. -/
/-- where cell k lies: the script is cell 0 -/
def am_ad (b0 b : Nat) : Nat → Nat
  | 0 => b0
  | k + 1 => b + k
def am_tv (b0 b : Nat) (v : Value) : Value := match v with
  | .ref k => .ref (am_ad b0 b k)
  | w => w
theorem am_tv_cat (b0 b : Nat) (v : Value) : (am_tv b0 b v).category = v.category := by
  cases v <;> rfl
def am_tl (b0 b : Nat) (al : List (Nat × Value)) : List (Nat × Value) := al.map (fun q => (q.1, am_tv b0 b q.2))
theorem am_tl_filter (b0 b : Nat) (i : Nat) (al : List (Nat × Value)) : (am_tl b0 b al).filter (fun q => !(q.1 == i) && !(q.1 + 1 == i && q.2.category == 2)) = am_tl b0 b (al.filter (fun q => !(q.1 == i) && !(q.1 + 1 == i && q.2.category == 2))) := by
  unfold am_tl
  rw [List.filter_map]
  congr 1
  apply List.filter_congr
  intro q _
  simp [Function.comp, am_tv_cat]
theorem am_lk_mem {al : List (Nat × Value)} {i : Nat} {v : Value} (h : am_lk al i = some v) : (i, v) ∈ al := by
  induction al with
  | nil => simp [am_lk] at h
  | cons q r ih =>
    unfold am_lk at h
    by_cases e : q.1 = i
    · rw [if_pos e] at h
      cases h
      rw [← e]
      exact List.mem_cons_self
    · rw [if_neg e] at h
      exact List.mem_cons_of_mem _ (ih h)
theorem am_lk_at {ls : Array Slot} {nL b0 b : Nat} {al : List (Nat × Value)} (hl : lv_has ls nL (am_tl b0 b al)) {i : Nat} {v : Value} (h : am_lk al i = some v) : ls[i]? = some (.val (am_tv b0 b v)) :=
  hl.2.2 (i, am_tv b0 b v) (List.mem_map.mpr ⟨(i, v), am_lk_mem h, rfl⟩)
theorem am_args_map (b0 b : Nat) : ∀ (vs : List Value) (i : Nat), lv_args i (vs.map (am_tv b0 b)) = am_tl b0 b (lv_args i vs)
  | [], _ => rfl
  | v :: vs, i => by
    show (i, am_tv b0 b v) :: lv_args (if (am_tv b0 b v).category = 2 then i + 2 else i + 1) (vs.map (am_tv b0 b)) = (i, am_tv b0 b v) :: am_tl b0 b (lv_args (if v.category = 2 then i + 2 else i + 1) vs)
    rw [am_tv_cat, am_args_map b0 b vs]
theorem am_w8_map (b0 b : Nat) (st : List Value) : ((st.map (am_tv b0 b)).map fun v => v.category).sum = am_w8 st := by
  unfold am_w8
  rw [List.map_map]
  congr 1
  apply List.map_congr_left
  intro v _
  exact am_tv_cat b0 b v
/-- the picture of a cell -/
def am_ce (G : am_G) (b0 b : Nat) (cA : Nat → ClassId) (h : am_H) (a : Nat) : va_E := match am_sh h a with
  | some (t, N) =>
    if t < 100 then .inr (t, (List.range N).map (fun j => if am_ft G t j % 10 = 2 then va_rf ((am_P h a j).map (am_ad b0 b)) else .int (am_I h a j)))
    else if t < 102 then .inl (cA t, N, .inl (am_I h a))
    else if t = 102 then .inl (cA t, N, .inr (.inl (am_L h a)))
    else .inl (cA t, N, .inr (.inr (.inr (.inr (fun j => (am_P h a j).map (am_ad b0 b))))))
  | none => .inr (0, [])
def am_wl (G : am_G) (b0 b : Nat) (cA : Nat → ClassId) (h : am_H) : va_W := (List.range (am_n h)).map (fun k => (b + k, am_ce G b0 b cA h (k + 1)))
theorem am_wl_at {G : am_G} {b0 b : Nat} {cA : Nat → ClassId} {h : am_H} {a : Nat} (h0 : a ≠ 0) (hn : a ≤ am_n h) : (am_wl G b0 b cA h)[a - 1]? = some (am_ad b0 b a, am_ce G b0 b cA h a) := by
  obtain ⟨k, rfl⟩ : ∃ k, a = k + 1 := ⟨a - 1, by omega⟩
  unfold am_wl
  rw [List.getElem?_map, List.getElem?_range (by omega)]
  rfl
theorem am_wl_D {G : am_G} {b0 b : Nat} {cA : Nat → ClassId} {h : am_H} : va_D (fun q => b ≤ q) (am_wl G b0 b cA h) := by
  have key : ∀ (i : Nat) (p : Nat × va_E), (am_wl G b0 b cA h)[i]? = some p → p.1 = b + i := by
    intro i p hp
    unfold am_wl at hp
    rw [List.getElem?_map] at hp
    cases hr : (List.range (am_n h))[i]? with
    | none => rw [hr] at hp; cases hp
    | some z =>
      rw [hr] at hp
      have hz : z = i := by
        have := List.getElem?_eq_some_iff.mp hr
        obtain ⟨h1, h2⟩ := this
        rw [List.getElem_range] at h2
        exact h2.symm
      cases hp
      simp [hz]
  refine ⟨fun i j p q hi hj e => ?_, fun k q hk => ?_⟩
  · have h1 := key i p hi
    have h2 := key j q hj
    omega
  · have h1 := key k q hk
    show b ≤ q.1
    omega
/-- one cell changes -/
theorem am_wl_set {G : am_G} {b0 b : Nat} {cA : Nat → ClassId} {h h' : am_H} {a : Nat} {e : va_E} (h0 : a ≠ 0) (hn : am_n h' = am_n h) (he : am_ce G b0 b cA h' a = e) (ho : ∀ x, x ≠ a → am_ce G b0 b cA h' x = am_ce G b0 b cA h x) : (am_wl G b0 b cA h).set (a - 1) (am_ad b0 b a, e) = am_wl G b0 b cA h' := by
  obtain ⟨k, rfl⟩ : ∃ k, a = k + 1 := ⟨a - 1, by omega⟩
  apply List.ext_getElem?
  intro i
  unfold am_wl
  rw [List.getElem?_set, List.getElem?_map, List.getElem?_map, hn]
  simp only [List.length_map, List.length_range, Nat.add_sub_cancel]
  by_cases hi : k = i
  · subst hi
    rw [if_pos rfl]
    by_cases hl : k < am_n h
    · rw [if_pos hl, List.getElem?_range hl, Option.map_some, ← he]
      rfl
    · rw [if_neg hl, List.getElem?_eq_none (by simpa using hl)]
      rfl
  · rw [if_neg hi]
    by_cases hl : i < am_n h
    · rw [List.getElem?_range hl, Option.map_some, Option.map_some, ho (i + 1) (by omega)]
    · rw [List.getElem?_eq_none (by simpa using hl)]
      rfl
/-- a cell comes -/
theorem am_wl_add {G : am_G} {b0 b : Nat} {cA : Nat → ClassId} {h h' : am_H} {e : va_E} (hn : am_n h' = am_n h + 1) (he : am_ce G b0 b cA h' (am_n h + 1) = e) (ho : ∀ x, x ≤ am_n h → am_ce G b0 b cA h' x = am_ce G b0 b cA h x) : am_wl G b0 b cA h ++ [(b + am_n h, e)] = am_wl G b0 b cA h' := by
  unfold am_wl
  rw [hn, List.range_succ, List.map_append, ← he]
  congr 1
  apply List.map_congr_left
  intro k hk
  rw [ho (k + 1) (by have := List.mem_range.mp hk; omega)]
/-- the heap H holds the picture h: its cells from b on, one behind the other -/
def am_X (G : am_G) (cl : List vw_C) (D : va_G) (cA : Nat → ClassId) (b0 b L : Nat) (xs : Nat → Int32) (h : am_H) (H : Heap) : Prop :=
  va_P D cl (am_wl G b0 b cA h) H ∧ H.size = b + am_n h + am_g h ∧ (∀ a q, am_sh h a = some q → a ≤ am_n h ∧ (a = 0 → q = (150, L))) ∧ am_I h 0 = xs ∧ ∀ (q : Nat) (ce : Cell), b ≤ q → H[q]? = some ce → ce.vm.isStatics = false
def am_tys (cl : List vw_C) (G : am_G) (own : Nat → String) (cA : Nat → ClassId) : List (ClassId × FieldType) := [(cA 100, .int), (cA 101, .boolean), (cA 102, .long), (cA 103, .object (own (am_ac G 103))), (cA 104, .object (own (am_ac G 104)))]
/-- what the tables say, and the script -/
def am_Y (G : am_G) (cl : List vw_C) (own : Nat → String) (D : va_G) (cA : Nat → ClassId) (b0 b L : Nat) (xs : Nat → Int32) (U : State) : Prop :=
  va_K D cl (am_tys cl G own cA) U ∧ b0 < b ∧ b ≤ U.heap.size ∧ va_X b0 L xs U U.heap ∧ ∀ (q : Nat) (ce : Cell), b ≤ q → U.heap[q]? = some ce → ce.vm.isStatics = false
/-- a class of the program -/
def am_ok (G : am_G) (cl : List vw_C) (own : Nat → String) (WS : List Cond) (ci : Nat) : Prop :=
  ∃ (T : u_T) (ty : Nat → FieldType), cl[ci]? = some (own ci, T, am_nf G ci) ∧ ci < 100 ∧ (∀ w ∈ u_ws (own ci) T (am_nf G ci), w ∈ WS) ∧ (∀ k, k < am_nf G ci → parseFieldDescriptor (T k).2.2.1 = some (ty k)) ∧
    (∀ a, a < am_nf G ci → ∀ b, b < am_nf G ci → a ≠ b → (T a).2.1 ≠ (T b).2.1) ∧ (∀ k, k < am_nf G ci → (T k).1 = own ci) ∧
    (∀ k, k < am_nf G ci → (am_ft G ci k % 10 = 0 ∧ ty k = .int) ∨ (am_ft G ci k % 10 = 1 ∧ ty k = .boolean) ∨ (am_ft G ci k % 10 = 2 ∧ ((∃ n, ty k = .object n) ∨ ∃ t, ty k = .array t))) ∧
    (∀ k, k < am_nf G ci → (T k).2.2.2 = decide (10 ≤ am_ft G ci k)) ∧
    (∀ o idx fi, am_pl G o idx = (1, ci, fi, 0) → fi < am_nf G ci → Cond.fieldLink (own o) idx (own ci) (T fi).2.1 (T fi).2.2.1 ∈ WS)
section AMW
variable {p : Program} {l : Launch} {e : Env} {R : Room} {s : State} {m : MethodId} {args : Array Value} {below : List Frame} {meth : Method} {c : Code} {H : Heap} {locs : List Loc} {cells slots : Nat} {Q : State → Prop}
variable {cc : ByteArray} {pc len : Nat} {ls : Array Slot} {b0 b : Nat}
theorem am_mono {Q2 : State → Prop} {g : JFrame} (hq : ∀ t, Q t → Q2 t) (w : W p l e R s m args below meth c H locs cells slots Q g) : W p l e R s m args below meth c H locs cells slots Q2 g := fun T hT X => by
  obtain ⟨t, h1, h2⟩ := w T hT X
  exact ⟨t, h1, hq t h2⟩
/-- what only moves the operand stack -/
theorem am_r_pure (hx : p.tables.exec = Jvm.exec) (hb : c.code = cc) {ins : Instr} {st : List Value} {q : Nat × List Value} (hp : am_pure ins st = some q) (hd : decode cc pc = .ok (ins, len)) (hlen : len = q.1)
    (k : W p l e R s m args below meth c H locs cells slots Q (F0 m (pc + len) ls (q.2.map (am_tv b0 b)))) : W p l e R s m args below meth c H locs cells slots Q (F0 m pc ls (st.map (am_tv b0 b))) := by
  unfold am_pure at hp
  split at hp <;> cases hp <;> dsimp only at hlen k <;> subst hlen
  · exact lv_iconst hx hb hd rfl k
  · exact lv_bipush hx hb hd rfl k
  · exact lv_sipush hx hb hd rfl k
  · exact lv_lconst hx hb hd rfl k
  · exact lv_iadd hx hb hd k
  · exact lv_isub hx hb hd k
  · exact lv_imul hx hb hd k
  · exact lv_iand hx hb hd k
  · exact lv_ior hx hb hd k
  · exact lv_ixor hx hb hd k
  · exact lv_ishl hx hb hd k
  · exact lv_ishr hx hb hd k
  · exact lv_iushr hx hb hd rfl k
  · exact lv_i2l hx hb hd rfl k
  · exact lv_l2i hx hb hd rfl k
  · exact lv_land hx hb hd k
  · exact lv_lor hx hb hd k
  · exact lv_lshl hx hb hd rfl k
  · exact lv_lshr hx hb hd rfl k
  · exact lv_lushr hx hb hd rfl k
  · exact W.lcmp hx hb hd k
  · exact lv_dup hx hb hd rfl k
  · exact lv_dup hx hb hd rfl k
  · exact lv_dup2_11 hx hb hd rfl rfl k
  · exact lv_pop hx hb hd rfl k
  · exact lv_pop hx hb hd rfl k
/-- branches -/
theorem am_r_br (hx : p.tables.exec = Jvm.exec) (hb : c.code = cc) {ins : Instr} {st : List Value} {q : Bool × Int × List Value} (hp : am_br ins st = some q) (hd : decode cc pc = .ok (ins, 3)) {t : Nat} (ht : (pc : Int) + q.2.1 = (t : Int))
    (kt : q.1 = true → W p l e R s m args below meth c H locs cells slots Q (F0 m t ls (q.2.2.map (am_tv b0 b))))
    (kf : q.1 = false → W p l e R s m args below meth c H locs cells slots Q (F0 m (pc + 3) ls (q.2.2.map (am_tv b0 b)))) : W p l e R s m args below meth c H locs cells slots Q (F0 m pc ls (st.map (am_tv b0 b))) := by
  unfold am_br at hp
  split at hp <;> cases hp <;> dsimp only at ht kt kf
  · exact lv_goto hx hb hd ht (kt rfl)
  · exact lv_if_eq hx hb hd ht (fun z => kt (decide_eq_true z)) (fun z => kf (decide_eq_false z))
  · exact lv_if_ne hx hb hd ht (fun z => kt (decide_eq_true z)) (fun z => kf (decide_eq_false (fun w => w z)))
  · exact lv_if_lt hx hb hd ht (fun z => kt (decide_eq_true z)) (fun z => kf (decide_eq_false z))
  · exact lv_if_ge hx hb hd ht (fun z => kt (decide_eq_true z)) (fun z => kf (decide_eq_false z))
  · exact lv_if_gt hx hb hd ht (fun z => kt (decide_eq_true z)) (fun z => kf (decide_eq_false z))
  · exact lv_if_le hx hb hd ht (fun z => kt (decide_eq_true z)) (fun z => kf (decide_eq_false z))
  · exact lv_icmp_eq hx hb hd ht (fun z => kt (decide_eq_true z)) (fun z => kf (decide_eq_false z))
  · exact lv_icmp_ne hx hb hd ht (fun z => kt (decide_eq_true z)) (fun z => kf (decide_eq_false (fun w => w z)))
  · exact lv_icmp_lt hx hb hd ht (fun z => kt (decide_eq_true z)) (fun z => kf (decide_eq_false z))
  · exact lv_icmp_ge hx hb hd ht (fun z => kt (decide_eq_true z)) (fun z => kf (decide_eq_false z))
  · exact lv_icmp_gt hx hb hd ht (fun z => kt (decide_eq_true z)) (fun z => kf (decide_eq_false z))
  · exact lv_icmp_le hx hb hd ht (fun z => kt (decide_eq_true z)) (fun z => kf (decide_eq_false z))
/-- switches -/
theorem am_r_sw (hx : p.tables.exec = Jvm.exec) (hb : c.code = cc) {ins : Instr} {st : List Value} {q : Int × List Value} (hp : am_sw ins st = some q) (hd : decode cc pc = .ok (ins, len)) {t : Nat} (ht : (pc : Int) + q.1 = (t : Int))
    (k : W p l e R s m args below meth c H locs cells slots Q (F0 m t ls (q.2.map (am_tv b0 b)))) : W p l e R s m args below meth c H locs cells slots Q (F0 m pc ls (st.map (am_tv b0 b))) := by
  unfold am_sw at hp
  split at hp
  · rename_i d lo hi offs x r
    by_cases h1 : x.toInt < lo ∨ hi < x.toInt
    · rw [if_pos h1] at hp
      cases hp
      exact lv_tableOut hx hb hd h1 ht k
    · rw [if_neg h1] at hp
      cases ho : offs[(x.toInt - lo).toNat]? with
      | none => rw [ho] at hp; cases hp
      | some o =>
        rw [ho] at hp
        cases hp
        exact lv_tableIn hx hb hd (fun z => h1 (Or.inl z)) (fun z => h1 (Or.inr z)) ho ht k
  · rename_i d ps x r
    split at hp
    · rename_i h1
      cases hp
      exact lv_lookup hx hb hd h1 rfl ht k
    · cases hp
  · cases hp
end AMW
end
section
/-! Part 21: rows of fields and arrays -/
theorem am_u1_eq {α : Type} (f : Nat → α) (k : Nat) (x : α) : am_u1 f k x k = x := if_pos rfl
theorem am_u1_ne {α : Type} (f : Nat → α) {k j : Nat} (x : α) (h : j ≠ k) : am_u1 f k x j = f j := if_neg h
theorem am_u2_eq {α : Type} (f : Nat → Nat → α) (a k : Nat) (x : α) : am_u2 f a k x a = fun j => if j = k then x else f a j := if_pos rfl
theorem am_u2_ne {α : Type} (f : Nat → Nat → α) {a b : Nat} (k : Nat) (x : α) (h : b ≠ a) : am_u2 f a k x b = f b := if_neg h
theorem am_ce_eq {G : am_G} {b0 b : Nat} {cA : Nat → ClassId} {h h' : am_H} {x : Nat} (h1 : am_sh h' x = am_sh h x) (h2 : am_P h' x = am_P h x) (h3 : am_I h' x = am_I h x) (h4 : am_L h' x = am_L h x) : am_ce G b0 b cA h' x = am_ce G b0 b cA h x := by
  unfold am_ce
  rw [h1, h2, h3, h4]
theorem am_ce_o {G : am_G} {b0 b : Nat} {cA : Nat → ClassId} {h : am_H} {a t N : Nat} (hs : am_sh h a = some (t, N)) (ht : t < 100) : am_ce G b0 b cA h a = .inr (t, (List.range N).map (fun j => if am_ft G t j % 10 = 2 then va_rf ((am_P h a j).map (am_ad b0 b)) else .int (am_I h a j))) := by
  unfold am_ce
  rw [hs]
  exact if_pos ht
theorem am_ce_i {G : am_G} {b0 b : Nat} {cA : Nat → ClassId} {h : am_H} {a t N : Nat} (hs : am_sh h a = some (t, N)) (h1 : ¬ t < 100) (h2 : t < 102) : am_ce G b0 b cA h a = .inl (cA t, N, .inl (am_I h a)) := by
  unfold am_ce
  rw [hs]
  exact (if_neg h1).trans (if_pos h2)
theorem am_ce_l {G : am_G} {b0 b : Nat} {cA : Nat → ClassId} {h : am_H} {a N : Nat} (hs : am_sh h a = some (102, N)) : am_ce G b0 b cA h a = .inl (cA 102, N, .inr (.inl (am_L h a))) := by
  unfold am_ce
  rw [hs]
  rfl
theorem am_ce_q {G : am_G} {b0 b : Nat} {cA : Nat → ClassId} {h : am_H} {a t N : Nat} (hs : am_sh h a = some (t, N)) (h1 : 102 < t) : am_ce G b0 b cA h a = .inl (cA t, N, .inr (.inr (.inr (.inr (fun j => (am_P h a j).map (am_ad b0 b)))))) := by
  unfold am_ce
  rw [hs]
  exact (if_neg (by omega)).trans ((if_neg (by omega)).trans (if_neg (by omega)))
theorem am_rset {α : Type} {N i : Nat} {f f' : Nat → α} {v : α} (h1 : ∀ j, j ≠ i → f' j = f j) (h2 : f' i = v) : ((List.range N).map f).set i v = (List.range N).map f' := by
  apply List.ext_getElem?
  intro j
  rw [List.getElem?_set, List.getElem?_map, List.getElem?_map]
  simp only [List.length_map, List.length_range]
  by_cases e : i = j
  · subst e
    rw [if_pos rfl]
    by_cases hl : i < N
    · rw [if_pos hl, List.getElem?_range hl, Option.map_some, h2]
    · rw [if_neg hl, List.getElem?_eq_none (by simpa using hl)]
      rfl
  · rw [if_neg e]
    by_cases hl : j < N
    · rw [List.getElem?_range hl, Option.map_some, Option.map_some, h1 j (Ne.symm e)]
    · rw [List.getElem?_eq_none (by simpa using hl)]
      rfl
section AMH
variable {p : Program} {l : Launch} {e : Env} {R : Room} {s : State} {m : MethodId} {args : Array Value} {below : List Frame} {meth : Method} {c : Code} {H : Heap} {locs : List Loc} {cells slots : Nat} {Q : State → Prop}
variable {cc : ByteArray} {pc : Nat} {ls : Array Slot} {rest : List Value} {b0 b L : Nat} {xs : Nat → Int32} {G : am_G} {cl : List vw_C} {own : Nat → String} {WS : List Cond} {D : va_G} {cA : Nat → ClassId} {h : am_H} {o idx ci fi a : Nat}
theorem am_obj_at (hX : am_X G cl D cA b0 b L xs h H) {t N : Nat} (hs : am_sh h a = some (t, N)) (ht : t ≠ 150) : a ≠ 0 ∧ a ≤ am_n h ∧ (am_wl G b0 b cA h)[a - 1]? = some (am_ad b0 b a, am_ce G b0 b cA h a) := by
  have h1 := hX.2.2.1 a _ hs
  have h0 : a ≠ 0 := fun z => ht (congrArg Prod.fst (h1.2 z))
  exact ⟨h0, h1.1, am_wl_at h0 h1.1⟩
theorem am_r_get (hx : p.tables.exec = Jvm.exec) (hb : c.code = cc) (hts : ∀ w ∈ WS, w.before args s = true) (hown : s.vm.findClass (own o) = some m.cls) (hY : am_Y G cl own D cA b0 b L xs s) (hok : am_ok G cl own WS ci) (hX : am_X G cl D cA b0 b L xs h H)
    (hpl : am_pl G o idx = (1, ci, fi, 0)) (hs : am_sh h a = some (ci, am_nf G ci)) (hfi : fi < am_nf G ci) (hd : decode cc pc = .ok (.getfield idx, 3)) {v : Value} (hv : (if am_ft G ci fi % 10 = 2 then va_rf ((am_P h a fi).map (am_ad b0 b)) else .int (am_I h a fi)) = v)
    (k : W p l e R s m args below meth c H locs cells slots Q (F0 m (pc + 3) ls (v :: rest))) : W p l e R s m args below meth c H locs cells slots Q (F0 m pc ls (.ref (am_ad b0 b a) :: rest)) := by
  obtain ⟨T, ty, hc, hlt, hu, hty, hnm, hdl, htt, hfin, hlk⟩ := hok
  obtain ⟨h0, hn, hat⟩ := am_obj_at hX hs (by omega)
  rw [am_ce_o hs hlt] at hat
  refine va_get hx hb hts hu hown hY.1 hX.1 (a - 1) hat hc fi hfi (hts _ (hlk o idx fi hpl hfi)) (fun x9 h9 => ?_) (v := v) ?_ hd k
  · rw [hdl fi hfi] at h9
    exact h9
  · rw [List.getElem?_map, List.getElem?_range hfi, Option.map_some, hv]
theorem am_r_put (hx : p.tables.exec = Jvm.exec) (hb : c.code = cc) (hts : ∀ w ∈ WS, w.before args s = true) (hown : s.vm.findClass (own o) = some m.cls) (hY : am_Y G cl own D cA b0 b L xs s) (hok : am_ok G cl own WS ci) (hX : am_X G cl D cA b0 b L xs h H) (hS : va_S (fun q => b ≤ q) s.heap H locs)
    (hpl : am_pl G o idx = (1, ci, fi, 0)) (hs : am_sh h a = some (ci, am_nf G ci)) (hfi : fi < am_nf G ci) (hf : am_ft G ci fi < 10 ∨ (meth.name = "<init>" ∧ own o = own ci)) (hd : decode cc pc = .ok (.putfield idx, 3)) {v : Value}
    (hv : (am_ft G ci fi % 10 = 0 ∧ ∃ x, v = .int x) ∨ (am_ft G ci fi % 10 = 1 ∧ (v = .int 0 ∨ v = .int 1)) ∨ (am_ft G ci fi % 10 = 2 ∧ ∃ x, v = .ref x))
    (kk : ∀ (H1 : Heap) (locs1 : List Loc), va_P D cl ((am_wl G b0 b cA h).set (a - 1) (am_ad b0 b a, .inr (ci, ((List.range (am_nf G ci)).map (fun j => if am_ft G ci j % 10 = 2 then va_rf ((am_P h a j).map (am_ad b0 b)) else .int (am_I h a j))).set fi v))) H1 → H1.size = H.size → (∀ q : Nat, q ≠ am_ad b0 b a → H1[q]? = H[q]?) → va_S (fun q => b ≤ q) s.heap H1 locs1 →
      W p l e R s m args below meth c H1 locs1 cells slots Q (F0 m (pc + 3) ls rest)) : W p l e R s m args below meth c H locs cells slots Q (F0 m pc ls (v :: .ref (am_ad b0 b a) :: rest)) := by
  obtain ⟨T, ty, hc, hlt, hu, hty, hnm, hdl, htt, hfin, hlk⟩ := hok
  obtain ⟨h0, hn, hat⟩ := am_obj_at hX hs (by omega)
  rw [am_ce_o hs hlt] at hat
  have hK := hY.1
  have hap := va_apart (own := own o) hts hu ty hty hnm hK hc
  have hnf : narrow (ty fi) v = v ∧ fits (ty fi) v = true := by
    rcases htt fi hfi with ⟨g1, g2⟩ | ⟨g1, g2⟩ | ⟨g1, g2⟩
    · rcases hv with ⟨_, x, rfl⟩ | ⟨w, _⟩ | ⟨w, _⟩
      · rw [g2]; exact ⟨rfl, rfl⟩
      · omega
      · omega
    · rcases hv with ⟨w, _⟩ | ⟨_, rfl | rfl⟩ | ⟨w, _⟩
      · omega
      · rw [g2]; exact ⟨rfl, rfl⟩
      · rw [g2]; exact ⟨rfl, rfl⟩
      · omega
    · rcases hv with ⟨w, _⟩ | ⟨w, _⟩ | ⟨_, x, rfl⟩
      · omega
      · omega
      · rcases g2 with ⟨n, g2⟩ | ⟨t, g2⟩ <;> rw [g2] <;> exact ⟨rfl, rfl⟩
  obtain ⟨r, h1, cell, q1, q2, q3, q4⟩ := hX.1 (a - 1) _ hat
  have hr : r = (own ci, T, am_nf G ci) := Option.some.inj (h1.symm.trans hc)
  subst hr
  obtain ⟨hS1, hfc, kC, hkC, hkind⟩ := hK.1 ci _ hc
  obtain ⟨cf, kf, f0, f, hi, hsl⟩ := hS1 fi hfi
  have hst := (u_facts hfc hkC (u_lays hts hu hfi) hi).1
  have hlk' := hts _ (hlk o idx fi hpl hfi)
  have hi' : s.fieldFound? (own ci) (T fi).2.1 (T fi).2.2.1 = some (cf, kf, f0, f) := by
    have := hi
    rw [show (own ci, T, am_nf G ci).2.1 = T from rfl, hdl fi hfi] at this
    exact this
  have hlay := hts _ (hu _ (u_in_lay hfi))
  unfold u_lay at hlay
  have hl : fi < ((List.range (am_nf G ci)).map (fun j => if am_ft G ci j % 10 = 2 then va_rf ((am_P h a j).map (am_ad b0 b)) else .int (am_I h a j))).length := by simpa using hfi
  by_cases h10 : am_ft G ci fi < 10
  · have hff : (T fi).2.2.2 = false := by rw [hfin fi hfi]; exact decide_eq_false (by omega)
    rw [if_neg (by rw [hff]; decide)] at hlay
    have h6 := u_store hfc hkC hkind hlay hi (hty fi hfi) hnf.1 hnf.2
    refine W.putK hx hb (f := f) ⟨hown, hlk', ⟨_, _, _, hi'⟩, hst⟩ (by rw [q2]; exact h6) q1 q3 (by rw [hsl]; exact k2_hasslot (q4 fi hfi)) rfl rfl hd fun H' e1 e2 e3 => ?_
    rw [hsl] at e1 ⊢
    exact kk H' _ (hX.1.set am_wl_D hat ⟨_, hc, t_OB.to (V := updV (vp_V _) fi v) ⟨_, e1, q2, q3, t_set q4 hap hfi v⟩ (fun j _ => vp_updV_set hl v j)⟩ e3) e2 e3 (hS.put e2 e3 (am_wl_D.2 _ _ hat))
  · rcases hf with hf | ⟨hin, hoo⟩
    · exact absurd hf h10
    · have hff : (T fi).2.2.2 = true := by rw [hfin fi hfi]; exact decide_eq_true (by omega)
      rw [if_pos hff] at hlay
      have hcf : m.cls = cf := by
        obtain ⟨_, _, c', _, _, _, -, -, hf', -, -, -, hown2, -⟩ := Cond.laysFinal_spec hlay
        have e1 : c' = cf := by have := hi.symm.trans hf'; simp at this; exact this.1.symm
        rw [hdl fi hfi, ← hoo] at hown2
        rw [← e1]; exact Option.some.inj (hown.symm.trans hown2)
      have h6 := u_fits hfc hkC hkind (Or.inr hlay) hi (hty fi hfi) hnf.1 hnf.2
      refine W.putFinK hx hb hown hlk' hi' hst hcf hin (by rw [q2]; exact h6) q1 q3 (by rw [hsl]; exact k2_hasslot (q4 fi hfi)) rfl rfl hd fun H' e1 e2 e3 => ?_
      rw [hsl] at e1 ⊢
      exact kk H' _ (hX.1.set am_wl_D hat ⟨_, hc, t_OB.to (V := updV (vp_V _) fi v) ⟨_, e1, q2, q3, t_set q4 hap hfi v⟩ (fun j _ => vp_updV_set hl v j)⟩ e3) e2 e3 (hS.put e2 e3 (am_wl_D.2 _ _ hat))
theorem am_ns {q : Nat × va_E} (h : va_at D cl q H) : ∃ ce : Cell, H[q.1]? = some ce ∧ ce.vm.isStatics = false := by
  obtain ⟨a9, e9⟩ := q
  cases e9 with
  | inl x =>
    refine ⟨_, h, ?_⟩
    obtain ⟨cA9, N9, f9⟩ := x
    rcases f9 with f9 | f9 | f9 | f9 | f9 <;> rfl
  | inr o9 =>
    obtain ⟨r, h1, cell, h2, h3, h4, h5⟩ := h
    exact ⟨cell, h2, by rw [h4]; rfl⟩
/-- a heap in which one cell's ints, or references, have changed -/
theorem am_X_of {h' : am_H} {H1 : Heap} {v : va_E} (hX : am_X G cl D cA b0 b L xs h H) (h0 : a ≠ 0) (hn : a ≤ am_n h) (hs' : am_sh h' = am_sh h) (hn' : am_n h' = am_n h) (hg' : am_g h' = am_g h) (hI0 : am_I h' 0 = am_I h 0) (he : am_ce G b0 b cA h' a = v) (ho : ∀ x, x ≠ a → am_ce G b0 b cA h' x = am_ce G b0 b cA h x)
    (hP1 : va_P D cl ((am_wl G b0 b cA h).set (a - 1) (am_ad b0 b a, v)) H1) (hz : H1.size = H.size) (hq : ∀ q : Nat, q ≠ am_ad b0 b a → H1[q]? = H[q]?) : am_X G cl D cA b0 b L xs h' H1 := by
  have hw : (am_wl G b0 b cA h).set (a - 1) (am_ad b0 b a, v) = am_wl G b0 b cA h' := am_wl_set h0 hn' he ho
  rw [hw] at hP1
  refine ⟨hP1, ?_, ?_, ?_, ?_⟩
  · rw [hz, hX.2.1, hn', hg']
  · intro x q hq
    rw [hs'] at hq
    rw [hn']
    exact hX.2.2.1 x q hq
  · rw [hI0]
    exact hX.2.2.2.1
  · intro q ce hb9 hc9
    by_cases e9 : q = am_ad b0 b a
    · subst e9
      obtain ⟨ce2, g1, g2⟩ := am_ns (hP1 (a - 1) _ (am_wl_at h0 (by rw [hn']; exact hn)))
      cases g1.symm.trans hc9
      exact g2
    · rw [hq q e9] at hc9
      exact hX.2.2.2.2 q ce hb9 hc9
theorem am_r_ald (hx : p.tables.exec = Jvm.exec) (hb : c.code = cc) (hY : am_Y G cl own D cA b0 b L xs s) (hX : am_X G cl D cA b0 b L xs h H) (hS : va_S (fun q => b ≤ q) s.heap H locs) {ins : Instr} {i : Int32} {f : Value → Prop} (hh : am_ald G ins h i a f) (hd : decode cc pc = .ok (ins, 1))
    (k : ∀ v, f v → W p l e R s m args below meth c H locs cells slots Q (F0 m (pc + 1) ls (am_tv b0 b v :: rest))) : W p l e R s m args below meth c H locs cells slots Q (F0 m pc ls (.int i :: .ref (am_ad b0 b a) :: rest)) := by
  obtain ⟨⟨t, N⟩, hs, hin, hh⟩ := am_so_s hh
  · dsimp only at hin hh
    split at hh
    · obtain ⟨ht | ⟨ht, h0⟩, hf⟩ := hh
      · subst ht
        obtain ⟨-, -, hat⟩ := am_obj_at hX hs (by decide)
        rw [am_ce_i hs (by decide) (by decide)] at hat
        exact va_iald hx hb hY.1 hX.1 (a - 1) 0 hat rfl hin hd (k _ hf)
      · subst ht
        subst h0
        have hL : N = L := by
          have := (hX.2.2.1 0 _ hs).2 rfl
          exact congrArg Prod.snd this
        subst hL
        have hk := k _ hf
        rw [hX.2.2.2.1] at hk
        exact va_sld (A := fun q => b ≤ q) hx hb hY.2.2.2.1 (Nat.lt_of_lt_of_le hY.2.1 hY.2.2.1) (by have := hY.2.1; show ¬ b ≤ b0; omega) hS hin hd hk
    · obtain ⟨ht, hf⟩ := hh
      subst ht
      obtain ⟨-, -, hat⟩ := am_obj_at hX hs (by decide)
      rw [am_ce_i hs (by decide) (by decide)] at hat
      exact va_zald hx hb hY.1 hX.1 (a - 1) 1 hat rfl hin hd (k _ hf)
    · obtain ⟨ht, hf⟩ := hh
      subst ht
      obtain ⟨-, -, hat⟩ := am_obj_at hX hs (by decide)
      rw [am_ce_l hs] at hat
      exact va_lald hx hb hY.1 hX.1 (a - 1) 2 hat rfl hin hd (k _ hf)
    · obtain ⟨ht, hf⟩ := hh
      obtain ⟨j, hj, hf⟩ := am_so_s hf
      have hk := k _ hf
      rcases ht with ht | ht <;> subst ht
      · obtain ⟨-, -, hat⟩ := am_obj_at hX hs (by decide)
        rw [am_ce_q hs (by decide)] at hat
        refine va_aldq hx hb hY.1 hX.1 (a - 1) 3 hat rfl hin hd ?_
        rw [hj]
        exact hk
      · obtain ⟨-, -, hat⟩ := am_obj_at hX hs (by decide)
        rw [am_ce_q hs (by decide)] at hat
        refine va_aldq hx hb hY.1 hX.1 (a - 1) 4 hat rfl hin hd ?_
        rw [hj]
        exact hk
    · exact hh.elim
end AMH
end
section
/-! Part 22: rows of stores into arrays, of lengths, of new cells, of arraycopy -/
section AMH2
variable {p : Program} {l : Launch} {e : Env} {R : Room} {s : State} {m : MethodId} {args : Array Value} {below : List Frame} {meth : Method} {c : Code} {H : Heap} {locs : List Loc} {cells slots : Nat} {Q : State → Prop}
variable {cc : ByteArray} {pc : Nat} {ls : Array Slot} {rest : List Value} {b0 b L : Nat} {xs : Nat → Int32} {G : am_G} {cl : List vw_C} {own : Nat → String} {WS : List Cond} {D : va_G} {cA : Nat → ClassId} {h : am_H} {o idx ci fi a : Nat}
theorem am_r_ast (hx : p.tables.exec = Jvm.exec) (hb : c.code = cc) (hY : am_Y G cl own D cA b0 b L xs s) (hac : ∀ t, (t = 103 ∨ t = 104) → am_ok G cl own WS (am_ac G t)) (hX : am_X G cl D cA b0 b L xs h H) (hS : va_S (fun q => b ≤ q) s.heap H locs) {ins : Instr} {v : Value} {i : Int32} {f : am_H → Prop} (hh : am_ast G ins h v i a f) (hd : decode cc pc = .ok (ins, 1))
    (k : ∀ (h' : am_H) (H1 : Heap) (locs1 : List Loc), f h' → am_X G cl D cA b0 b L xs h' H1 → va_S (fun q => b ≤ q) s.heap H1 locs1 → W p l e R s m args below meth c H1 locs1 cells slots Q (F0 m (pc + 1) ls rest)) : W p l e R s m args below meth c H locs cells slots Q (F0 m pc ls (am_tv b0 b v :: .int i :: .ref (am_ad b0 b a) :: rest)) := by
  obtain ⟨⟨t, N⟩, hs, hin, hh2⟩ := am_so_s hh
  clear hh
  have hh := hh2
  clear hh2
  · dsimp only at hin hh
    split at hh
    · rename_i x
      obtain ⟨ht, hf⟩ := hh
      subst ht
      obtain ⟨h0, hn, hat⟩ := am_obj_at hX hs (by decide)
      rw [am_ce_i hs (by decide) (by decide)] at hat
      refine W.iast hx hb (hX.1 (a - 1) _ hat) ((hY.1.2 0 _ rfl).1 N (fun j => .int (am_I h a j))) (fun q => by cases q) (by show ¬ (i < 0 ∨ (arrV _ _ _).slots.size ≤ _); rw [arrV_size]; exact hin) rfl rfl hd fun H1 e1 z oq => ?_
      refine k _ H1 _ hf (am_X_of (v := .inl (cA 100, N, .inl (am_u2 (am_I h) a i.toNatClampNeg x a))) hX h0 hn rfl rfl rfl (am_u2_ne _ _ _ (Ne.symm h0)) (am_ce_i (h := am_setI h (am_u2 (am_I h) a i.toNatClampNeg x)) hs (by decide) (by decide)) (fun y hy => am_ce_eq rfl rfl (am_u2_ne _ _ _ hy) rfl) (hX.1.set am_wl_D hat ?_ oq) z oq) (hS.put z oq (am_wl_D.2 _ _ hat))
      show H1[am_ad b0 b a]? = some (vp_cell _ _)
      rw [e1, am_u2_eq]
      dsimp only
      rw [vp_cell_i, vp_cell_i, arrV_store]
      congr 2
      funext q
      by_cases hq : q = i.toNatClampNeg
      · subst hq
        simp [updV]
      · simp [updV, hq]
    · rename_i x
      obtain ⟨ht, hf⟩ := hh
      subst ht
      obtain ⟨h0, hn, hat⟩ := am_obj_at hX hs (by decide)
      rw [am_ce_i hs (by decide) (by decide)] at hat
      refine W.zast hx hb (hX.1 (a - 1) _ hat) ((hY.1.2 1 _ rfl).1 N (fun j => .int (am_I h a j))) (fun q => by cases q) (by show ¬ (i < 0 ∨ (arrV _ _ _).slots.size ≤ _); rw [arrV_size]; exact hin) rfl rfl hd fun H1 e1 z oq => ?_
      refine k _ H1 _ hf (am_X_of (v := .inl (cA 101, N, .inl (am_u2 (am_I h) a i.toNatClampNeg (vp_nar .boolean x) a))) hX h0 hn rfl rfl rfl (am_u2_ne _ _ _ (Ne.symm h0)) (am_ce_i (h := am_setI h (am_u2 (am_I h) a i.toNatClampNeg (vp_nar .boolean x))) hs (by decide) (by decide)) (fun y hy => am_ce_eq rfl rfl (am_u2_ne _ _ _ hy) rfl) (hX.1.set am_wl_D hat ?_ oq) z oq) (hS.put z oq (am_wl_D.2 _ _ hat))
      show H1[am_ad b0 b a]? = some (vp_cell _ _)
      rw [e1, am_u2_eq]
      dsimp only
      rw [vp_cell_i, vp_cell_i, arrV_store]
      congr 2
      funext q
      by_cases hq : q = i.toNatClampNeg
      · subst hq
        simp [updV, vp_nar]
        try rfl
      · simp [updV, hq]
    · rename_i x
      obtain ⟨ht, hf⟩ := hh
      subst ht
      obtain ⟨h0, hn, hat⟩ := am_obj_at hX hs (by decide)
      rw [am_ce_l hs] at hat
      refine W.last hx hb (hX.1 (a - 1) _ hat) ((hY.1.2 2 _ rfl).1 N (fun j => .long (am_L h a j))) (fun q => by cases q) (by show ¬ (i < 0 ∨ (arrV _ _ _).slots.size ≤ _); rw [arrV_size]; exact hin) rfl rfl hd fun H1 e1 z oq => ?_
      refine k _ H1 _ hf (am_X_of (v := .inl (cA 102, N, .inr (.inl (am_u2 (am_L h) a i.toNatClampNeg x a)))) hX h0 hn rfl rfl rfl rfl (am_ce_l (h := am_setL h (am_u2 (am_L h) a i.toNatClampNeg x)) hs) (fun y hy => am_ce_eq rfl rfl rfl (am_u2_ne _ _ _ hy)) (hX.1.set am_wl_D hat ?_ oq) z oq) (hS.put z oq (am_wl_D.2 _ _ hat))
      show H1[am_ad b0 b a]? = some (vp_cell _ _)
      rw [e1, am_u2_eq]
      dsimp only
      rw [vp_cell_l, vp_cell_l, arrV_store]
      congr 2
      funext q
      by_cases hq : q = i.toNatClampNeg
      · subst hq
        simp [updV]
      · simp [updV, hq]
    · rename_i j
      obtain ⟨ht, hsj, hlt, hf⟩ := hh
      obtain ⟨h0, hn, hat⟩ := am_obj_at hX hs (by omega)
      rw [am_ce_q hs (by omega)] at hat
      obtain ⟨-, -, hatj⟩ := am_obj_at hX hsj (by omega)
      rw [am_ce_o hsj hlt] at hatj
      obtain ⟨T, ty, hc, -⟩ := hac t ht
      obtain ⟨r', hr', cellV, g1, g2, g3, -⟩ := hX.1 (j - 1) _ hatj
      have hcls := (hY.1.1 (am_ac G t) _ hc).2
      have hRA : ∃ n : Nat, (am_tys cl G own cA)[n]? = some (cA t, FieldType.object (own (am_ac G t))) := by
        rcases ht with ht | ht <;> subst ht
        · exact ⟨3, rfl⟩
        · exact ⟨4, rfl⟩
      obtain ⟨n, hRA⟩ := hRA
      obtain ⟨kA, comp, k1, k2, k3, -⟩ := (hY.1.2 n _ hRA).2
      have hcomp : comp = D.1 (am_ac G t) := Option.some.inj (k3.symm.trans hcls.1)
      subst hcomp
      obtain ⟨kC, hkC, -⟩ := hcls.2
      have h9 : ¬ i < 0 := fun q => hin (Or.inl q)
      have hlt9 : i.toNatClampNeg < N := Nat.not_le.mp fun q => hin (Or.inr q)
      refine W.aast hx hb (hX.1 (a - 1) _ hat) (fun q h => by cases h) (fun h => by cases h) k1 k2 rfl hkC ⟨h9, by show _ < (arrV _ _ _).slots.size; rw [arrV_size]; exact hlt9⟩ g1 (fun q h => by rw [g3] at h; cases h) (by rw [g2]; exact hkC) (by rw [g2]; exact va_assign hcls) rfl rfl hd fun H1 e1 z oq => ?_
      refine k _ H1 _ hf (am_X_of (v := .inl (cA t, N, .inr (.inr (.inr (.inr (fun y => (am_u2 (am_P h) a i.toNatClampNeg (some j) a y).map (am_ad b0 b))))))) hX h0 hn rfl rfl rfl rfl (am_ce_q (h := am_setP h (am_u2 (am_P h) a i.toNatClampNeg (some j))) hs (by omega)) (fun y hy => am_ce_eq rfl (am_u2_ne _ _ _ hy) rfl rfl) (hX.1.set am_wl_D hat ?_ oq) z oq) (hS.put z oq (am_wl_D.2 _ _ hat))
      show H1[am_ad b0 b a]? = some (vp_cell _ _)
      rw [e1, am_u2_eq]
      dsimp only
      rw [vp_cell_q, vp_cell_q, arrV_store]
      congr 2
      funext q
      by_cases hq : q = i.toNatClampNeg
      · subst hq
        simp [updV, va_rf]
      · simp [updV, hq]
    · exact hh.elim
theorem am_r_len (hx : p.tables.exec = Jvm.exec) (hb : c.code = cc) (hY : am_Y G cl own D cA b0 b L xs s) (hX : am_X G cl D cA b0 b L xs h H) (hS : va_S (fun q => b ≤ q) s.heap H locs) {t N : Nat} (hs : am_sh h a = some (t, N)) (ht : 100 ≤ t ∧ t ≤ 104 ∨ (t = 150 ∧ a = 0)) (hd : decode cc pc = .ok (.arraylength, 1))
    (k : W p l e R s m args below meth c H locs cells slots Q (F0 m (pc + 1) ls (.int (Int32.ofNat N) :: rest))) : W p l e R s m args below meth c H locs cells slots Q (F0 m pc ls (.ref (am_ad b0 b a) :: rest)) := by
  rcases ht with ⟨h1, h2⟩ | ⟨h1, h2⟩
  · obtain ⟨-, -, hat⟩ := am_obj_at hX hs (by omega)
    have ht : t = 100 ∨ t = 101 ∨ t = 102 ∨ t = 103 ∨ t = 104 := by omega
    rcases ht with ht | ht | ht | ht | ht <;> subst ht
    · rw [am_ce_i hs (by decide) (by decide)] at hat
      exact va_alen hx hb hY.1 hX.1 (a - 1) 0 hat rfl rfl hd k
    · rw [am_ce_i hs (by decide) (by decide)] at hat
      exact va_alen hx hb hY.1 hX.1 (a - 1) 1 hat rfl rfl hd k
    · rw [am_ce_l hs] at hat
      exact va_alen hx hb hY.1 hX.1 (a - 1) 2 hat rfl rfl hd k
    · rw [am_ce_q hs (by decide)] at hat
      exact va_alen hx hb hY.1 hX.1 (a - 1) 3 hat rfl rfl hd k
    · rw [am_ce_q hs (by decide)] at hat
      exact va_alen hx hb hY.1 hX.1 (a - 1) 4 hat rfl rfl hd k
  · subst h1
    subst h2
    have hL : N = L := congrArg Prod.snd ((hX.2.2.1 0 _ hs).2 rfl)
    subst hL
    exact va_slen (A := fun q => b ≤ q) hx hb hY.2.2.2.1 (Nat.lt_of_lt_of_le hY.2.1 hY.2.2.1) (by have := hY.2.1; show ¬ b ≤ b0; omega) hS hd k
/-- a cell has come: the picture with it -/
theorem am_X_add {t N : Nat} {H1 : Heap} {v : va_E} (hX : am_X G cl D cA b0 b L xs h H) (hg : am_g h = 0) (ht : t ≠ 150) (he : am_ce G b0 b cA (am_add h t N) (am_n h + 1) = v) (hv : va_at D cl (b + am_n h, v) H1) (hz : H1.size = H.size + 1) (ho : ∀ q, q < H.size → H1[q]? = H[q]?) : am_X G cl D cA b0 b L xs (am_add h t N) H1 := by
  have hsz : H.size = b + am_n h := by rw [hX.2.1, hg]; rfl
  refine ⟨?_, ?_, ?_, ?_, ?_⟩
  · rw [← am_wl_add (h := h) (h' := am_add h t N) rfl he (fun x hx => ?_)]
    · refine va_P.app (hX.1.kept fun k q hk => ho q.1 ((hX.1 k q hk).lt)) (fun k q hk => ?_)
      have hz : k < 1 := (List.getElem?_eq_some_iff.mp hk).1
      rw [show k = 0 by omega] at hk
      cases hk
      exact hv
    · have hne : x ≠ am_n h + 1 := by omega
      exact am_ce_eq (am_u1_ne _ _ hne) (am_u1_ne _ _ hne) (am_u1_ne _ _ hne) (am_u1_ne _ _ hne)
  · rw [hz, hsz]
    show b + am_n h + 1 = b + (am_n h + 1) + am_g h
    omega
  · intro x q hq
    by_cases hne : x = am_n h + 1
    · subst hne
      exact ⟨Nat.le_refl _, fun z => by omega⟩
    · have hq' : am_sh h x = some q := (am_u1_ne (am_sh h) (some (t, N)) hne).symm.trans hq
      obtain ⟨h1, h2⟩ := hX.2.2.1 x q hq'
      exact ⟨Nat.le_succ_of_le h1, h2⟩
  · exact (am_u1_ne (am_I h) (fun _ => 0) (k := am_n h + 1) (Nat.succ_ne_zero (am_n h)).symm).trans hX.2.2.2.1
  · intro q ce hb9 hc9
    by_cases e9 : q = H.size
    · subst e9
      obtain ⟨ce2, g1, g2⟩ := am_ns hv
      rw [← hsz] at g1
      cases g1.symm.trans hc9
      exact g2
    · have hlt : q < H.size := by
        have := (Array.getElem?_eq_some_iff.mp hc9).1
        omega
      rw [ho q hlt] at hc9
      exact hX.2.2.2.2 q ce hb9 hc9
theorem am_S_add {H1 : Heap} (hS : va_S (fun q => b ≤ q) s.heap H locs) (hz : H1.size = H.size + 1) (ho : ∀ q, q < H.size → H1[q]? = H[q]?) : va_S (fun q => b ≤ q) s.heap H1 locs :=
  ⟨Nat.le_trans hS.1 (by omega), fun q h1 h2 => (ho q (Nat.lt_of_lt_of_le h1 hS.1)).trans (hS.2.1 q h1 h2), hS.2.2⟩
theorem am_r_new (hx : p.tables.exec = Jvm.exec) (hb : c.code = cc) (hts : ∀ w ∈ WS, w.before args s = true) (hown : s.vm.findClass (own o) = some m.cls) (hY : am_Y G cl own D cA b0 b L xs s) (hok : am_ok G cl own WS ci) (hX : am_X G cl D cA b0 b L xs h H) (hS : va_S (fun q => b ≤ q) s.heap H locs)
    (hlk : Cond.classLink (own o) idx (own ci) ∈ WS) (hin : Cond.instantiable (own ci) (am_nf G ci) ∈ WS) (hini : Cond.initialized (own ci) ∈ WS) (hg : am_g h = 0) (hcells : cells + 1 ≤ R.cells) (hslots : slots + am_nf G ci ≤ R.slots) (hd : decode cc pc = .ok (.new idx, 3))
    (k : ∀ (H1 : Heap), am_X G cl D cA b0 b L xs (am_add h ci (am_nf G ci)) H1 → va_S (fun q => b ≤ q) s.heap H1 locs → W p l e R s m args below meth c H1 locs (cells + 1) (slots + am_nf G ci) Q (F0 m (pc + 3) ls (.ref (am_ad b0 b (am_n h + 1)) :: rest))) : W p l e R s m args below meth c H locs cells slots Q (F0 m pc ls rest) := by
  obtain ⟨T, ty, hc, hlt, hu, hty, hnm, hdl, htt, hfin, hlk9⟩ := hok
  have hsz : H.size = b + am_n h := by rw [hX.2.1, hg]; rfl
  have hKn := hY.1.1 ci _ hc
  refine W.newcK hx hb hown (hts _ hlk) (hts _ hin) (hts _ hini) rfl hd hcells hslots hKn.2.1 hsz fun H1 kC hkC e1 z1 o1 => ?_
  have hs9 : am_sh (am_add h ci (am_nf G ci)) (am_n h + 1) = some (ci, am_nf G ci) := am_u1_eq _ _ _
  refine k H1 (am_X_add hX hg (by omega) (am_ce_o hs9 hlt) ⟨_, hc, (u_born ty hts hu hKn hkC e1 hty).to (fun j hj => ?_)⟩ (by omega) (fun q hq => o1 q (by omega))) (am_S_add hS (by omega) (fun q hq => o1 q (by omega)))
  show defaultValue (ty j) = vp_V ((List.range (am_nf G ci)).map _) j
  unfold vp_V
  rw [List.getD_eq_getElem?_getD, List.getElem?_map, List.getElem?_range hj, Option.map_some, Option.getD_some]
  have hP9 : am_P (am_add h ci (am_nf G ci)) (am_n h + 1) = fun _ => none := am_u1_eq _ _ _
  have hI9 : am_I (am_add h ci (am_nf G ci)) (am_n h + 1) = fun _ => 0 := am_u1_eq _ _ _
  rw [hP9, hI9]
  rcases htt j hj with ⟨g1, g2⟩ | ⟨g1, g2⟩ | ⟨g1, g2⟩
  · rw [if_neg (by omega), g2]
    rfl
  · rw [if_neg (by omega), g2]
    rfl
  · rw [if_pos g1]
    rcases g2 with ⟨n, g2⟩ | ⟨n, g2⟩ <;> rw [g2] <;> rfl
/-- a new array: t its tag, ty what it holds -/
theorem am_r_newa (hx : p.tables.exec = Jvm.exec) (hb : c.code = cc) (hts : ∀ w ∈ WS, w.before args s = true) (hY : am_Y G cl own D cA b0 b L xs s) (hX : am_X G cl D cA b0 b L xs h H) (hS : va_S (fun q => b ≤ q) s.heap H locs) {at_ : ArrayType} {t : Nat} (hat : (at_ = .int ∧ t = 100) ∨ (at_ = .boolean ∧ t = 101) ∨ (at_ = .long ∧ t = 102))
    (harr : Cond.arrayClass (newarray.typeOf at_) ∈ WS) {n : Int32} (hn : ¬ n < 0) (h4 : n.toNatClampNeg ≤ 10000) (hg : am_g h = 0) (hcells : cells + 1 ≤ R.cells) (hslots : slots + n.toNatClampNeg ≤ R.slots) (hd : decode cc pc = .ok (.newarray at_, 2))
    (k : ∀ (H1 : Heap), am_X G cl D cA b0 b L xs (am_add h t n.toNatClampNeg) H1 → va_S (fun q => b ≤ q) s.heap H1 locs → W p l e R s m args below meth c H1 locs (cells + 1) (slots + n.toNatClampNeg) Q (F0 m (pc + 2) ls (.ref (am_ad b0 b (am_n h + 1)) :: rest))) : W p l e R s m args below meth c H locs cells slots Q (F0 m pc ls (.int n :: rest)) := by
  have hsz : H.size = b + am_n h := by rw [hX.2.1, hg]; rfl
  have hcb : n.toNatClampNeg * componentBytes (newarray.typeOf at_) ≤ 536870912 := by
    have : componentBytes (newarray.typeOf at_) ≤ 8 := by rcases hat with ⟨rfl, -⟩ | ⟨rfl, -⟩ | ⟨rfl, -⟩ <;> decide
    calc n.toNatClampNeg * componentBytes (newarray.typeOf at_) ≤ 10000 * 8 := Nat.mul_le_mul h4 this
      _ ≤ 536870912 := by decide
  refine va_newaK hx hb (hts _ harr) rfl hd rfl hn rfl hcb hcells hslots hsz fun H1 cA1 e1 z1 o1 hAr hNm => ?_
  have hs9 : am_sh (am_add h t n.toNatClampNeg) (am_n h + 1) = some (t, n.toNatClampNeg) := am_u1_eq _ _ _
  have hI9 : am_I (am_add h t n.toNatClampNeg) (am_n h + 1) = fun _ => 0 := am_u1_eq _ _ _
  have hL9 : am_L (am_add h t n.toNatClampNeg) (am_n h + 1) = fun _ => 0 := am_u1_eq _ _ _
  rcases hat with ⟨rfl, rfl⟩ | ⟨rfl, rfl⟩ | ⟨rfl, rfl⟩
  · have hcA : cA1 = cA 100 := Option.some.inj (hNm.symm.trans (hY.1.2 0 _ rfl).2)
    subst hcA
    refine k H1 (am_X_add hX hg (by decide) (am_ce_i hs9 (by decide) (by decide)) ?_ (by omega) (fun q hq => o1 q (by omega))) (am_S_add hS (by omega) (fun q hq => o1 q (by omega)))
    rw [hI9]
    exact e1
  · have hcA : cA1 = cA 101 := Option.some.inj (hNm.symm.trans (hY.1.2 1 _ rfl).2)
    subst hcA
    refine k H1 (am_X_add hX hg (by decide) (am_ce_i hs9 (by decide) (by decide)) ?_ (by omega) (fun q hq => o1 q (by omega))) (am_S_add hS (by omega) (fun q hq => o1 q (by omega)))
    rw [hI9]
    exact e1
  · have hcA : cA1 = cA 102 := Option.some.inj (hNm.symm.trans (hY.1.2 2 _ rfl).2)
    subst hcA
    refine k H1 (am_X_add hX hg (by decide) (am_ce_l hs9) ?_ (by omega) (fun q hq => o1 q (by omega))) (am_S_add hS (by omega) (fun q hq => o1 q (by omega)))
    rw [hL9]
    exact e1
theorem am_r_anew (hx : p.tables.exec = Jvm.exec) (hb : c.code = cc) (hts : ∀ w ∈ WS, w.before args s = true) (hown : s.vm.findClass (own o) = some m.cls) (hY : am_Y G cl own D cA b0 b L xs s) (hX : am_X G cl D cA b0 b L xs h H) (hS : va_S (fun q => b ≤ q) s.heap H locs) {t : Nat} (ht : t = 103 ∨ t = 104)
    (hlk : Cond.classLink (own o) idx (own (am_ac G t)) ∈ WS) (hov : Cond.arrayOver (.object (own (am_ac G t))) ∈ WS) {n : Int32} (hn : ¬ n < 0) (h4 : n.toNatClampNeg ≤ 10000) (hg : am_g h = 0) (hcells : cells + 1 ≤ R.cells) (hslots : slots + n.toNatClampNeg ≤ R.slots) (hd : decode cc pc = .ok (.anewarray idx, 3))
    (k : ∀ (H1 : Heap), am_X G cl D cA b0 b L xs (am_add h t n.toNatClampNeg) H1 → va_S (fun q => b ≤ q) s.heap H1 locs → W p l e R s m args below meth c H1 locs (cells + 1) (slots + n.toNatClampNeg) Q (F0 m (pc + 3) ls (.ref (am_ad b0 b (am_n h + 1)) :: rest))) : W p l e R s m args below meth c H locs cells slots Q (F0 m pc ls (.int n :: rest)) := by
  have hsz : H.size = b + am_n h := by rw [hX.2.1, hg]; rfl
  refine W.anew hx hb hown (hts _ hlk) (hts _ hov) rfl hd rfl hn (by omega) hcells hslots fun cA1 kA comp g1 g2 g3 g4 => ?_
  have hs9 : am_sh (am_add h t n.toNatClampNeg) (am_n h + 1) = some (t, n.toNatClampNeg) := am_u1_eq _ _ _
  have hP9 : am_P (am_add h t n.toNatClampNeg) (am_n h + 1) = fun _ => none := am_u1_eq _ _ _
  have hRA : ∃ n : Nat, (am_tys cl G own cA)[n]? = some (cA t, FieldType.object (own (am_ac G t))) := by
    rcases ht with ht | ht <;> subst ht
    · exact ⟨3, rfl⟩
    · exact ⟨4, rfl⟩
  obtain ⟨n9, hRA⟩ := hRA
  obtain ⟨kA9, comp9, k1, k2, k3, k4⟩ := (hY.1.2 n9 _ hRA).2
  have hcA : cA1 = cA t := Option.some.inj (g1.symm.trans k4)
  subst hcA
  have hz : (H.push { cls := cA t, slots := Array.replicate n.toNatClampNeg .null, vm := .none }).size = H.size + 1 := by simp
  have ho : ∀ q, q < H.size → (H.push { cls := cA t, slots := Array.replicate n.toNatClampNeg .null, vm := .none })[q]? = H[q]? := fun q hq => by
    rw [Array.getElem?_push, if_neg (Nat.ne_of_lt hq)]
  have hk := k _ (am_X_add (t := t) (N := n.toNatClampNeg) hX hg (by omega) (am_ce_q hs9 (by omega)) (by
    rw [hP9]
    show (H.push _)[b + am_n h]? = some (vp_cell _ _)
    rw [← hsz, Array.getElem?_push_size, vp_cell_q, arrV_new]
    rfl) hz ho) (am_S_add hS hz ho)
  rw [show am_ad b0 b (am_n h + 1) = b + am_n h from rfl, ← hsz] at hk
  exact hk
theorem am_r_cpy (hx : p.tables.exec = Jvm.exec) (hb : c.code = cc) (hml : c.maxLocals = ls.size) (hts : ∀ w ∈ WS, w.before args s = true) (hown : s.vm.findClass (own o) = some m.cls) (hY : am_Y G cl own D cA b0 b L xs s) (hX : am_X G cl D cA b0 b L xs h H) (hS : va_S (fun q => b ≤ q) s.heap H locs)
    (hlk : Cond.methodLink (own o) idx arraycopyName ∈ WS) (hnat : Cond.native arraycopyName ∈ WS) (hstat : Cond.static arraycopyName ∈ WS) (hini : Cond.initialized "java/lang/System" ∈ WS) (hfr : 1 ≤ R.frames) (hlo : 8 + (nativeFrameWords "java/lang/System" "arraycopy" 5 + 11) ≤ R.locals) {st : List Value} {f : am_H → List Value → Prop} (hh : am_cpy h st f) (hd : decode cc pc = .ok (.invokestatic idx, 3))
    (k : ∀ (h' : am_H) (r : List Value) (H1 : Heap) (locs1 : List Loc), f h' r → am_X G cl D cA b0 b L xs h' H1 → va_S (fun q => b ≤ q) s.heap H1 locs1 → W p l e R s m args below meth c H1 locs1 cells slots Q (F0 m (pc + 3) ls (r.map (am_tv b0 b)))) : W p l e R s m args below meth c H locs cells slots Q (F0 m pc ls (st.map (am_tv b0 b))) := by
  unfold am_cpy at hh
  split at hh
  · rename_i n dp a1 sp a0 r
    obtain ⟨n0, n1, hs0, hs1, g1, g2, g3, g4, g5, hw, hf⟩ := hh
    obtain ⟨z0, hn0, hat0⟩ := am_obj_at hX hs0 (by decide)
    obtain ⟨z1, hn1, hat1⟩ := am_obj_at hX hs1 (by decide)
    rw [am_ce_i hs0 (by decide) (by decide)] at hat0
    rw [am_ce_i hs1 (by decide) (by decide)] at hat1
    have nn : ∀ z : Int32, ¬ z < 0 → z.toInt = (z.toNatClampNeg : Int) := by
      intro z hz
      have hz0 : (0 : Int) ≤ z.toInt := by
        have := Int32.not_lt.mp hz
        simpa using Int32.le_iff_toInt_le.mp this
      show z.toInt = ((z.toInt.toNat : Nat) : Int)
      omega
    intro T hT X
    have hc0 : H[am_ad b0 b a0]? = some (vp_cell (cA 100) (n0, .inl (am_I h a0))) := hX.1 (a0 - 1) _ hat0
    have hc1 : H[am_ad b0 b a1]? = some (vp_cell (cA 100) (n1, .inl (am_I h a1))) := hX.1 (a1 - 1) _ hat1
    obtain ⟨-, kk0, hk0, cm0, hkk0⟩ := (hY.1.2 0 _ rfl).1 n0 (fun j => .int (am_I h a0 j))
    obtain ⟨-, kk1, hk1, cm1, hkk1⟩ := (hY.1.2 0 _ rfl).1 n1 (fun j => .int (am_I h a1 j))
    obtain ⟨vm', X', step⟩ := X.arraycopy hx hown (hts _ hlk) (hts _ hnat) (hts _ hstat) (hts _ hini) (src := am_ad b0 b a0) (dst := am_ad b0 b a1) (cs := vp_cell (cA 100) (n0, .inl (am_I h a0))) (cd := vp_cell (cA 100) (n1, .inl (am_I h a1))) (srcPos := sp) (destPos := dp) (n := n) (by rw [hT]; exact hc0) (by rw [hT]; exact hc1)
      (fun _ h => by cases h) (fun _ h => by cases h) (fun h => by cases h) (fun h => by cases h) hk0 hk1 hkk0 hkk1 (by simp [refKind]) g1 g2 g3
      (by rw [nn sp g1, nn n g3]; show ¬ _ > ((arrV (cA 100) n0 (fun j => .int (am_I h a0 j))).slots.size : Int); rw [arrV_size]; omega)
      (by rw [nn dp g2, nn n g3]; show ¬ _ > ((arrV (cA 100) n1 (fun j => .int (am_I h a1 j))).slots.size : Int); rw [arrV_size]; omega)
      (fun vm₁ _ i hi => by
        have e9 : (vp_cell (cA 100) (n0, .inl (am_I h a0))).slots.getD (sp.toNatClampNeg + i) .null = .int (am_I h a0 (sp.toNatClampNeg + i)) := by
          show (arrV (cA 100) n0 (fun j => .int (am_I h a0 j))).slots.getD _ _ = _
          rw [Array.getD_eq_getD_getElem?, arrV_read _ _ (by omega)]
          rfl
        refine ⟨?_, ?_⟩
        · rw [e9]
          rfl
        · rw [e9]
          exact trivial)
      (g := F0 m pc ls (.int n :: .int dp :: .ref (am_ad b0 b a1) :: .int sp :: .ref (am_ad b0 b a0) :: r.map (am_tv b0 b))) rfl (by rw [hml]) (rest := r.map (am_tv b0 b)) rfl (by rw [hb]; exact hd) hfr (by show 2 * 0 + _ + _ ≤ _; rw [am_w8_map]; omega)
    have e1 : copied (vp_cell (cA 100) (n0, .inl (am_I h a0))) (vp_cell (cA 100) (n1, .inl (am_I h a1))) sp dp n = vp_cell (cA 100) (n1, .inl (va_cpy (am_I h a0) (am_I h a1) sp.toNatClampNeg dp.toNatClampNeg n.toNatClampNeg)) := va_copied (fun z => .int z) (cA 100) (cA 100) (am_I h a0) (am_I h a1) g4
    rw [e1] at X' step
    have hl9 : am_ad b0 b a1 < H.size := (Array.getElem?_eq_some_iff.mp hc1).1
    have oq : ∀ q : Nat, q ≠ am_ad b0 b a1 → (H.setIfInBounds (am_ad b0 b a1) (vp_cell (cA 100) (n1, .inl (va_cpy (am_I h a0) (am_I h a1) sp.toNatClampNeg dp.toNatClampNeg n.toNatClampNeg))))[q]? = H[q]? := fun q hq => by simp [Array.getElem?_setIfInBounds, Ne.symm hq]
    have hz9 : (H.setIfInBounds (am_ad b0 b a1) (vp_cell (cA 100) (n1, .inl (va_cpy (am_I h a0) (am_I h a1) sp.toNatClampNeg dp.toNatClampNeg n.toNatClampNeg)))).size = H.size := by simp
    have hXn : am_X G cl D cA b0 b L xs (am_setI h (am_u1 (am_I h) a1 (va_cpy (am_I h a0) (am_I h a1) sp.toNatClampNeg dp.toNatClampNeg n.toNatClampNeg))) (H.setIfInBounds (am_ad b0 b a1) (vp_cell (cA 100) (n1, .inl (va_cpy (am_I h a0) (am_I h a1) sp.toNatClampNeg dp.toNatClampNeg n.toNatClampNeg)))) := by
      refine am_X_of (v := .inl (cA 100, n1, .inl (va_cpy (am_I h a0) (am_I h a1) sp.toNatClampNeg dp.toNatClampNeg n.toNatClampNeg))) hX z1 hn1 rfl rfl rfl (am_u1_ne _ _ (Ne.symm z1)) ?_ (fun y hy => am_ce_eq rfl rfl (am_u1_ne _ _ hy) rfl) (hX.1.set am_wl_D hat1 ?_ oq) hz9 oq
      · rw [am_ce_i (h := am_setI h (am_u1 (am_I h) a1 (va_cpy (am_I h a0) (am_I h a1) sp.toNatClampNeg dp.toNatClampNeg n.toNatClampNeg))) hs1 (by decide) (by decide)]
        show Sum.inl (cA 100, n1, Sum.inl (am_u1 (am_I h) a1 _ a1)) = _
        rw [am_u1_eq]
      · show (H.setIfInBounds _ _)[am_ad b0 b a1]? = some _
        simp [Array.getElem?_setIfInBounds, hl9]
    obtain ⟨t, x1, x2⟩ := k _ r _ _ hf hXn ⟨by rw [hz9]; exact hS.1, fun q u1 u2 => by
        rw [oq q (fun z => u2 (by rw [z]; exact am_wl_D.2 _ _ hat1))]
        exact hS.2.1 q u1 u2, fun q hq => by
        rcases List.mem_append.mp hq with h9 | h9
        · exact hS.2.2 q h9
        · obtain ⟨z, -, hz⟩ := List.mem_map.mp h9
          rw [← hz]
          exact am_wl_D.2 _ _ hat1⟩ _ (by rw [← hT]; rfl) X'
    exact ⟨t, step t x1, x2⟩
  · exact hh.elim
end AMH2
end
section
/-! Part 23: contracts, and rows of calls -/
/-- a method's start: its arguments, the heap's picture, the tables -/
def am_Pc (G : am_G) (cl : List vw_C) (own : Nat → String) (D : va_G) (cA : Nat → ClassId) (b0 b L : Nat) (xs : Nat → Int32) (Z : State → Prop) (as : List Value) (h : am_H) : Array Value → State → Prop := fun v U =>
  v = (as.map (am_tv b0 b)).toArray ∧ am_X G cl D cA b0 b L xs h U.heap ∧ am_Y G cl own D cA b0 b L xs U ∧ Z U
/-- its end -/
def am_Qc (G : am_G) (cl : List vw_C) (xn : Nat → String) (D : va_G) (cA : Nat → ClassId) (b0 b L : Nat) (xs : Nat → Int32) (o : am_O) (h : am_H) : Array Value → State → Outcome → State → Prop := fun _ st oc t =>
  (match o with
  | .inl v => oc = .returned (v.map (am_tv b0 b))
  | .inr x => ∃ ce : Cell, oc = .threw (am_ad b0 b (am_n h + am_g h)) ∧ t.heap[am_ad b0 b (am_n h + am_g h)]? = some ce ∧ ce.vm = .none ∧ t.vm.findClass (xn x) = some ce.cls) ∧
  am_X G cl D cA b0 b L xs h t.heap ∧ va_F (fun q => b ≤ q) st t
def am_MX (l : Launch) (y : MethodName) (ws : List Cond) (rm : Room) (Pc : Array Value → State → Prop) (Qc : Array Value → State → Outcome → State → Prop) (mc ms : Nat) (free : Addr → Prop) : Prop :=
  MetFree l y (headSpec ws rm) Pc (fun _ _ _ _ _ => True) (fun a st o t => Qc a st o t ∧ ∃ Ls, (st.WarmedH t.vm ∧ st.sameButNew ({ t with vm := st.vm } : State) Ls mc ms) ∧ ∀ q ∈ Ls, free q.base)
def am_MQ (below : List Frame) (Qc : Array Value → State → Outcome → State → Prop) (a : Array Value) (s : State) (mc ms : Nat) (free : Addr → Prop) : State → Prop := fun t =>
  ∃ o, t.status = .running ∧ Ended t below o ∧ Qc a s o t ∧ ∃ Ls, (s.WarmedH t.vm ∧ s.sameButNew ({ t with vm := s.vm } : State) Ls mc ms) ∧ ∀ q ∈ Ls, free q.base
theorem am_MQ_of {below : List Frame} {Qc : Array Value → State → Outcome → State → Prop} {a : Array Value} {s : State} {mc ms : Nat} {free : Addr → Prop} {t : State} (h : MQ below Qc a s mc ms free t) : am_MQ below Qc a s mc ms free t := by
  obtain ⟨o, h1, h2, h3, Ls, h4, h5⟩ := h
  exact ⟨o, h1, h2, h3, Ls, ⟨h4.2.1, h4.2.2⟩, h5⟩
theorem am_MX_met {l : Launch} {y : MethodName} {ws : List Cond} {rm : Room} {Pc : Array Value → State → Prop} {Qc : Array Value → State → Outcome → State → Prop} {mc ms : Nat} {free : Addr → Prop} (hr : ∀ a st o t, Qc a st o t → ∃ v, o = .returned v) (h : am_MX l y ws rm Pc Qc mc ms free) : Met l y ws rm Pc Qc mc ms free := by
  refine MetFree.mono h (fun _ _ q => q) (fun _ _ _ _ _ q => q) (fun a s o s' _ hq => ?_)
  obtain ⟨h1, Ls, h2, h3⟩ := hq
  exact ⟨h1, Ls, ⟨hr _ _ _ _ h1, h2.1, h2.2⟩, h3⟩
theorem am_ofW {l : Launch} {y : MethodName} {ws ws' : List Cond} {rm : Room} {Pc : Array Value → State → Prop} {Qc : Array Value → State → Outcome → State → Prop} {mc ms : Nat} {free : Addr → Prop} {cc : ByteArray} {maxL : Nat} {ret : Option FieldType}
    (hy : plainFor y = true) (hw : ws = Cond.code y cc maxL ret :: ws')
    (body : ∀ p e s m args below meth c s₁, BodyLoose p l y (headSpec ws rm) cc maxL ret e s m args below meth c s₁ → c.maxLocals = maxL → Pc args s →
      W p l e (headSpec ws rm).room s m args below meth c s.heap [] 0 0 (am_MQ below Qc args s mc ms free) (entryFrame m args maxL)) : am_MX l y ws rm Pc Qc mc ms free := by
  refine MetFree.of_bodySF (code := cc) (maxLocals := maxL) (ret := ret) hy ?_ ?_
  · intro args s m h hn
    obtain ⟨meth, c, h1, h2, h3, h4, h5, h6, -, -⟩ := Cond.code_spec hn (atoms_spec (ws := ws) h _ (by rw [hw]; exact List.mem_cons_self))
    exact ⟨meth, c, h1, h2, h3, h4, h5, h6⟩
  · intro p e s m args below meth c s₁ B hml hP _
    have hh0 : s₁.heap = s.heap := by rw [B.state]; rfl
    obtain ⟨t, a1, o, b1, b2, b3⟩ := body p e s m args below meth c s₁ B hml hP s₁ hh0 (Stand.of_body B)
    exact ⟨t, o, a1, b1, b2, ⟨b3.1, b3.2⟩⟩
theorem am_ofWh {l : Launch} {y : MethodName} {ws ws' : List Cond} {rm : Room} {Pc : Array Value → State → Prop} {Qc : Array Value → State → Outcome → State → Prop} {mc ms : Nat} {free : Addr → Prop} {cc : ByteArray} {maxL : Nat} {ret : Option FieldType} {hh : List (Nat × Nat × Nat × Nat)}
    (hy : plainFor y = true) (hw : ws = Cond.codeWith y cc maxL ret hh :: ws')
    (body : ∀ p e s m args below meth c s₁, BodyLoose p l y (headSpec ws rm) cc maxL ret e s m args below meth c s₁ → c.maxLocals = maxL → Pc args s →
      W p l e (headSpec ws rm).room s m args below meth c s.heap [] 0 0 (am_MQ below Qc args s mc ms free) (entryFrame m args maxL)) : am_MX l y ws rm Pc Qc mc ms free := by
  refine MetFree.of_bodySF (code := cc) (maxLocals := maxL) (ret := ret) hy ?_ ?_
  · intro args s m h hn
    obtain ⟨m9, meth, c, hn9, h1, h2, h3, h4, -, h5, h6, -⟩ := Cond.codeWith_spec (atoms_spec (ws := ws) h _ (by rw [hw]; exact List.mem_cons_self))
    cases hn.symm.trans hn9
    exact ⟨meth, c, h1, h2, h3, h4, h5, h6⟩
  · intro p e s m args below meth c s₁ B hml hP _
    have hh0 : s₁.heap = s.heap := by rw [B.state]; rfl
    obtain ⟨t, a1, o, b1, b2, b3⟩ := body p e s m args below meth c s₁ B hml hP s₁ hh0 (Stand.of_body B)
    exact ⟨t, o, a1, b1, b2, ⟨b3.1, b3.2⟩⟩
section AMC
variable {p : Program} {l : Launch} {e : Env} {R : Room} {s : State} {m : MethodId} {args : Array Value} {below : List Frame} {meth : Method} {c : Code} {T : State} {H : Heap} {locs : List Loc} {cells slots : Nat} {Q : State → Prop}
/-- an invoking instruction, up to the invocation -/
def am_Go (p : Program) (l : Launch) (e : Env) (R : Room) (s : State) (m : MethodId) (args : Array Value) (below : List Frame) (meth : Method) (c : Code) (H : Heap) (locs : List Loc) (cells slots : Nat) (g : JFrame) (rest : List Value) (mk : MethodId) (a : Array Value) : Prop :=
  ∀ T : State, T.heap = H → Stand p l e R s m args below meth c T locs cells slots → ∃ vm₁ : Vm, s.WarmedH vm₁ ∧ Stand p l e R s m args below meth c (T.setVm vm₁) locs cells slots ∧
    ∀ target, Steps p.tables e below (doInvoke e ((T.setVm vm₁).setTop { g with stack := rest }) [] mk a).1 target → Steps p.tables e below (T.setTop g) target
theorem am_goS (hx : p.tables.exec = Jvm.exec) {own : String} {index : Nat} {y : MethodName} (hown : s.vm.findClass own = some m.cls) (hlink : (Cond.methodLink own index y).before args s = true) (hstat : (Cond.static y).before args s = true) (hini : (Cond.initialized y.cls).before args s = true) (hy : y.cls ≠ "java/lang/invoke/MethodHandle" ∧ y.cls ≠ "java/lang/invoke/VarHandle")
    {mk : MethodId} (hnamed : s.methodNamed? y = some mk) {methM : Method} (hmethM : s.vm.method? mk = some methM) {g : JFrame} (hg : g.method = m) {argsL rest : List Value} (hlen : argsL.length = methM.sig.parameters.length) (hstack : g.stack = argsL.reverse ++ rest) (hdg : decode c.code g.pc = .ok (.invokestatic index, 3)) :
    am_Go p l e R s m args below meth c H locs cells slots g rest mk argsL.toArray := by
  intro T hT X
  have hstatic : methM.isStatic = true := Cond.static_spec hnamed hmethM hstat
  obtain ⟨kP, hkP, -⟩ := className_of_methodNamed hnamed
  have hinitP : kP.init = .initialized := Cond.initialized_spec (findClass_of_methodNamed hnamed) hkP hini
  obtain ⟨vm₁, X₁, hstep₁⟩ := X.invokestatic hx hown hlink hnamed hmethM hstatic hkP hinitP hy (g := g) hg (argsL := argsL) (rest := rest) hlen hstack hdg
  exact ⟨vm₁, X₁.warmed, X₁, fun target h => hstep₁ _ fun acts => by rw [doInvoke_state]; exact h⟩
theorem am_goSN (hx : p.tables.exec = Jvm.exec) {own host : String} {index : Nat} {y : MethodName} (hown : s.vm.findClass own = some m.cls) (hlink : (Cond.methodLinkNest own index y host).before args s = true) (hstat : (Cond.static y).before args s = true) (hini : (Cond.initialized y.cls).before args s = true) (hy : y.cls ≠ "java/lang/invoke/MethodHandle" ∧ y.cls ≠ "java/lang/invoke/VarHandle")
    {mk : MethodId} (hnamed : s.methodNamed? y = some mk) {methM : Method} (hmethM : s.vm.method? mk = some methM) {g : JFrame} (hg : g.method = m) {argsL rest : List Value} (hlen : argsL.length = methM.sig.parameters.length) (hstack : g.stack = argsL.reverse ++ rest) (hdg : decode c.code g.pc = .ok (.invokestatic index, 3)) :
    am_Go p l e R s m args below meth c H locs cells slots g rest mk argsL.toArray := by
  intro T hT X
  have hstatic : methM.isStatic = true := Cond.static_spec hnamed hmethM hstat
  obtain ⟨kP, hkP, -⟩ := className_of_methodNamed hnamed
  have hinitP : kP.init = .initialized := Cond.initialized_spec (findClass_of_methodNamed hnamed) hkP hini
  obtain ⟨vm₁, X₁, hstep₁⟩ := X.invokestaticNest hx hown hlink hnamed hmethM hstatic hkP hinitP hy (g := g) hg (argsL := argsL) (rest := rest) hlen hstack hdg
  exact ⟨vm₁, X₁.warmed, X₁, fun target h => hstep₁ _ fun acts => by rw [doInvoke_state]; exact h⟩
theorem am_goV (hx : p.tables.exec = Jvm.exec) {own C : String} {index : Nat} {y : MethodName} (hown : s.vm.findClass own = some m.cls) (hlink : (Cond.methodLink own index y).before args s = true) (hinst : (Cond.instanceMethod y).before args s = true) (hsel : (Cond.selects C y y).before args s = true) (hy : y.cls ≠ "java/lang/invoke/MethodHandle" ∧ y.cls ≠ "java/lang/invoke/VarHandle")
    {mk : MethodId} (hnamed : s.methodNamed? y = some mk) {methM : Method} (hmethM : s.vm.method? mk = some methM) {b : Addr} {cellB : Cell} (hcell : H[b]? = some cellB) (hobj : cellB.vm.isStatics = false) (hcls : s.vm.findClass C = some cellB.cls)
    {g : JFrame} (hg : g.method = m) {argsL rest : List Value} (hlen : argsL.length = methM.sig.parameters.length) (hstack : g.stack = argsL.reverse ++ .ref b :: rest) (hdg : decode c.code g.pc = .ok (.invokevirtual index, 3)) :
    am_Go p l e R s m args below meth c H locs cells slots g rest mk (Value.ref b :: argsL).toArray := by
  intro T hT X
  obtain ⟨mk', methM', hnamed', hmethM', hstM, habM⟩ := Cond.instanceMethod_spec hinst
  cases hnamed.symm.trans hnamed'
  cases hmethM.symm.trans hmethM'
  obtain ⟨c2, r2, m2, q1, q2, q3, q4, kP, hkP, hkPi⟩ := Cond.selects_spec hsel
  cases hcls.symm.trans q1
  cases (State.methodFound?_of_named hnamed hy).symm.trans q2
  cases hnamed.symm.trans q3
  have hselP : selectMethod e.platform s.vm cellB.cls mk = .method mk := by rw [Launch.admits_selectMethod X.admits]; exact q4
  obtain ⟨vm₁, X₁, hstep₁⟩ := X.invokevirtual hx hown hlink hnamed hmethM hstM hkP hkPi hy (a := b) (cell := cellB) (by rw [hT]; exact hcell)
    (fun z h => by rw [h] at hobj; cases hobj) hselP hmethM habM hkP hkPi (g := g) hg (argsL := argsL) (rest := rest) hlen hstack hdg
  exact ⟨vm₁, X₁.warmed, X₁, fun target h => hstep₁ _ fun acts => by rw [doInvoke_state]; exact h⟩
theorem am_goVN (hx : p.tables.exec = Jvm.exec) {own C host : String} {index : Nat} {y : MethodName} (hown : s.vm.findClass own = some m.cls) (hlink : (Cond.methodLinkNest own index y host).before args s = true) (hinst : (Cond.instanceMethod y).before args s = true) (hsel : (Cond.selects C y y).before args s = true) (hy : y.cls ≠ "java/lang/invoke/MethodHandle" ∧ y.cls ≠ "java/lang/invoke/VarHandle")
    {mk : MethodId} (hnamed : s.methodNamed? y = some mk) {methM : Method} (hmethM : s.vm.method? mk = some methM) {b : Addr} {cellB : Cell} (hcell : H[b]? = some cellB) (hobj : cellB.vm.isStatics = false) (hcls : s.vm.findClass C = some cellB.cls)
    {g : JFrame} (hg : g.method = m) {argsL rest : List Value} (hlen : argsL.length = methM.sig.parameters.length) (hstack : g.stack = argsL.reverse ++ .ref b :: rest) (hdg : decode c.code g.pc = .ok (.invokevirtual index, 3)) :
    am_Go p l e R s m args below meth c H locs cells slots g rest mk (Value.ref b :: argsL).toArray := by
  intro T hT X
  obtain ⟨mk', methM', hnamed', hmethM', hstM, habM⟩ := Cond.instanceMethod_spec hinst
  cases hnamed.symm.trans hnamed'
  cases hmethM.symm.trans hmethM'
  obtain ⟨c2, r2, m2, q1, q2, q3, q4, kP, hkP, hkPi⟩ := Cond.selects_spec hsel
  cases hcls.symm.trans q1
  cases (State.methodFound?_of_named hnamed hy).symm.trans q2
  cases hnamed.symm.trans q3
  have hselP : selectMethod e.platform s.vm cellB.cls mk = .method mk := by rw [Launch.admits_selectMethod X.admits]; exact q4
  obtain ⟨vm₁, X₁, hstep₁⟩ := X.invokevirtualNest hx hown hlink hnamed hmethM hstM hkP hkPi hy (a := b) (cell := cellB) (by rw [hT]; exact hcell)
    (fun z h => by rw [h] at hobj; cases hobj) hselP hmethM habM hkP hkPi (g := g) hg (argsL := argsL) (rest := rest) hlen hstack hdg
  exact ⟨vm₁, X₁.warmed, X₁, fun target h => hstep₁ _ fun acts => by rw [doInvoke_state]; exact h⟩
theorem am_goI (hx : p.tables.exec = Jvm.exec) {own : String} {index : Nat} {y : MethodName} {bytes : ByteArray} {maxL : Nat} (hown : s.vm.findClass own = some m.cls) (hy1 : y.name = "<init>") (hlink : (Cond.methodLink own index y).before args s = true) (hinst : (Cond.instanceMethod y).before args s = true) (hcode : (Cond.code y bytes maxL none).before args s = true) (hy : y.cls ≠ "java/lang/invoke/MethodHandle" ∧ y.cls ≠ "java/lang/invoke/VarHandle")
    {mk : MethodId} (hnamed : s.methodNamed? y = some mk) {b : Addr} {g : JFrame} (hg : g.method = m) {argsL rest : List Value} (hlen : ∀ sig, parseMethodDescriptor y.desc = some sig → argsL.length = sig.parameters.length) (hstack : g.stack = argsL.reverse ++ .ref b :: rest) (hdg : decode c.code g.pc = .ok (.invokespecial index, 3)) :
    am_Go p l e R s m args below meth c H locs cells slots g rest mk (Value.ref b :: argsL).toArray := by
  intro T hT X
  subst hg
  have hpl : e.platform.magicAccessors = ({} : Platform).magicAccessors := by rw [X.admits.platform]
  obtain ⟨mk', methM, cM, kP, vm₁, hnamed', hmethM, hcodeM, -, hlocalsM, -, hkP, -, hW₁, hstep₁⟩ := Steps.initColdArgs (e := e) X.here hx X.warmed hpl hown hy1 hy hlink hinst hcode (f := g) rfl hlen hstack hdg
  cases hnamed.symm.trans hnamed'
  exact ⟨vm₁, hW₁, X.noted hW₁, fun target h => hstep₁ _ fun acts => by rw [doInvoke_state]; exact h⟩
/-- the call comes back -/
theorem am_ret {y : MethodName} {Pc : Array Value → State → Prop} {G : am_G} {cl : List vw_C} {xn : Nat → String} {D : va_G} {cA : Nat → ClassId} {b0 b L : Nat} {xs : Nat → Int32} {v : Option Value} {h' : am_H} {mc ms : Nat} {mk : MethodId} {a : Array Value} {g : JFrame} {rest : List Value} {ig : Instr}
    (hgo : am_Go p l e R s m args below meth c H locs cells slots g rest mk a) (hK : Back l R p e below s args y 3 8 (PreOf R mc ms Pc) (PostOf (am_Qc G cl xn D cA b0 b L xs (.inl v) h') mc ms (fun q => b ≤ q))) (hn : s.methodNamed? y = some mk)
    (hg : g.method = m) (hsize : g.locals.size = c.maxLocals) (hdg : decode c.code g.pc = .ok (ig, 3)) (hW : 2 * g.monitorRoom + (rest.map fun v => v.category).sum ≤ 8) (hcells : cells + mc ≤ R.cells) (hslots : slots + ms ≤ R.slots) (hP : ∀ U : State, U.heap = H → s.WarmedH U.vm → Pc a U) (hS : va_S (fun q => b ≤ q) s.heap H locs)
    (k : ∀ (H1 : Heap) (locs1 : List Loc), am_X G cl D cA b0 b L xs h' H1 → va_S (fun q => b ≤ q) s.heap H1 locs1 → W p l e R s m args below meth c H1 locs1 (cells + mc) (slots + ms) Q { g with pc := g.pc + 3, stack := (v.map (am_tv b0 b)).toList ++ rest }) : W p l e R s m args below meth c H locs cells slots Q g := by
  intro T hT X
  obtain ⟨vm₁, hW₁, X₁, hst⟩ := hgo T hT X
  obtain ⟨v9, ⟨U', l2, c2, s2⟩, X', ⟨g', mk', t, Ls, e1, e2, hq, h1, hL, h2, h3⟩, st⟩ := hK m meth c ⟨T.setVm vm₁, locs, cells, slots⟩ { g with stack := rest } ig mk a X₁ hg hsize hdg hW (X₁.named hn) ⟨hcells, hslots, hP (T.setVm vm₁) hT hW₁⟩
  dsimp only [Pt.U, Pt.locs, Pt.cells, Pt.slots] at X' e1 e2 h1 h2 h3 st
  subst h1; subst h2; subst h3
  obtain ⟨hv, hX', hF⟩ := hq
  have hv : Outcome.returned v9 = Outcome.returned (v.map (am_tv b0 b)) := hv
  cases hv
  have hz : H.size ≤ t.heap.size := by have := hF.1; rw [← hT]; exact this
  have hk : ∀ q : Nat, q < H.size → ¬ b ≤ q → t.heap[q]? = H[q]? := fun q u1 u2 => by
    have := hF.2 q (by show q < T.heap.size; rw [hT]; exact u1) u2
    rw [← hT]; exact this
  obtain ⟨t2, x1, x2⟩ := k U'.heap (locs ++ Ls) (by rw [e1]; exact hX') ⟨Nat.le_trans hS.1 (by rw [e1]; exact hz), fun q u1 u2 => by rw [e1, hk q (Nat.lt_of_lt_of_le u1 hS.1) u2]; exact hS.2.1 q u1 u2, fun q hq => by
      rcases List.mem_append.mp hq with h9 | h9
      · exact hS.2.2 q h9
      · exact hL q h9⟩ U' rfl X'
  exact ⟨t2, hst t2 (st.trans x1), x2⟩
end AMC
end
section
/-! Part 24: exceptions -/
section AMT
variable {p : Program} {l : Launch} {e : Env} {R : Room} {s : State} {m : MethodId} {args : Array Value} {below : List Frame} {meth : Method} {c : Code} {T : State} {H : Heap} {locs : List Loc} {cells slots : Nat} {Q : State → Prop}
/-- the method is invoked, and throws -/
theorem am_thr {y : MethodName} {ws : List Cond} {rm : Room} {Pc : Array Value → State → Prop} {Qc : Array Value → State → Outcome → State → Prop} {mc ms : Nat} {free : Addr → Prop} {maxL : Nat} {U : State} {g : JFrame} {ig : Instr} {mk : MethodId} {a : Array Value}
    (hM : am_MX l y ws rm Pc Qc mc ms free) (hblind : FrameBlind Pc) (hrc : rm.cells = mc) (hrs : rm.slots = ms) (hframes : rm.frames + 1 ≤ R.frames) (hlocals : 8 + (maxL + 11) + rm.locals ≤ R.locals)
    (hws : ∀ w ∈ ws, ∀ (a' : Array Value) (U : State), s.WarmedH U.vm → w.before a' U = true) {methY : Method} {cY : Code} (hmY : U.vm.method? mk = some methY) (hcY : methY.code = some cY) (hlY : cY.maxLocals = maxL) (hinit : ∀ (a' : Array Value) (U : State), s.WarmedH U.vm → (Cond.initialized y.cls).before a' U = true)
    (X : Stand p l e R s m args below meth c U locs cells slots) (hg : g.method = m) (hsize : g.locals.size = c.maxLocals) (hdg : decode c.code g.pc = .ok (ig, 3)) (hW : 2 * g.monitorRoom + (g.stack.map fun v => v.category).sum ≤ 8) (hn : U.methodNamed? y = some mk) (hcells : cells + mc ≤ R.cells) (hslots : slots + ms ≤ R.slots) (hP : Pc a U)
    (hthr : ∀ st oc t, Qc a st oc t → ∃ x, oc = .threw x) :
    ∃ (x : Addr) (T' t st0 : State) (Ls : List Loc), Stand p l e R s m args below meth c T' (locs ++ Ls) (cells + mc) (slots + ms) ∧ (∀ q ∈ Ls, free q.base) ∧ T'.heap = t.heap ∧ T'.vm = t.vm ∧ st0.heap = U.heap ∧ Qc a st0 (.threw x) t ∧
      Steps p.tables e below (doInvoke e (U.setTop g) [] mk a).1 ((T'.setTop g).pushFrame (.throwing x)) := by
  obtain ⟨kY, hkY, -⟩ := className_of_methodNamed hn
  have hinitY : kY.init = .initialized := Cond.initialized_spec (findClass_of_methodNamed hn) hkY (hinit a U X.warmed)
  have h : At U g.method c below := by rw [hg]; exact X.here
  have happ : (headSpec ws rm).appliesLoose y e.platform (U.calling g mk a) = true :=
    Spec.appliesLoose_calling (g := g) h hdg hn hkY hinitY
      (X.room_calling (g := g) (R' := (headSpec ws rm).room) hsize hmY hcY hframes (by rw [hlY]; show 2 * g.monitorRoom + _ + (maxL + 11) + rm.locals ≤ _; omega) (by show cells + rm.cells ≤ _; rw [hrc]; exact hcells) (by show slots + rm.slots ≤ _; rw [hrs]; exact hslots)) (atoms_intro fun w hw => hws w hw _ _ X.warmed)
  obtain ⟨mid, hmid⟩ := h.above
  have hfr : (U.setTop g).frames = (.java g :: mid) ++ below := by rw [State.frames_setTop' g h.top, hmid]; rfl
  obtain ⟨o, s₂, hsteps, -, hend, hq, Ls, ⟨hW2, hsame⟩, hL⟩ := Steps.callFree hM p X.admits X.cas X.clock (acts := []) hfr happ (hblind _ _ _ _ hP) trivial
  rw [State.frames_setTop' g h.top] at hend
  obtain ⟨x, rfl⟩ := hthr _ _ _ hq
  rw [X.tail] at hend
  obtain ⟨sameA, sameB, hcl, hsl, hcl2, hsl2⟩ := id hsame
  obtain ⟨T', X', hW', hsame', ht⟩ := X.outOfThrown hg hend hW2 hsame
  refine ⟨x, T', s₂, (U.setTop g).pushFrame (.invoking mk a), Ls, X', hL, ?_, ?_, rfl, hq, ?_⟩
  · rw [ht]; rfl
  · rw [ht]; rfl
  · rw [← ht]; exact hsteps
theorem am_fg_hit {Qh : Handler → Pre} {E : CtlPost} {d9 : Bool} {acts : List Action} {u : State} {f : JFrame} {a : Addr} {x : ExceptionTableEntry} {t : List ExceptionTableEntry} {cT : ClassId} {cell : Cell} (hx : covers x f.pc = true) (h0 : x.catchType ≠ 0) (hl : u.vm.ClassLinks e.platform f.method.cls x.catchType cT) (hcell : u.heap[a]? = some cell) (hobj : ∀ k, cell.vm ≠ .statics k)
    (hk : ∃ k, u.vm.classes[cell.cls]? = some k) (hc : ∃ k, u.vm.classes[cT]? = some k) (hfit : u.vm.assignable cell.cls cT = true) :
    wp (findHandler.go f a (x :: t)) Qh E e d9 acts u ↔ Qh (.found x.handlerPc) d9 acts (u.setVm (u.vm.noted f.method.cls x.catchType (.cls cT))) := by
  simp only [covers] at hx
  obtain ⟨ha, ht⟩ := (resolveClass_links e.toSetting hl).op (op := VmOp.resolveClass f.method.cls x.catchType) rfl
  have hal : u.vm.Alike (u.vm.noted f.method.cls x.catchType (.cls cT)) := (Vm.Alike.refl u.vm).noted _ _ _
  obtain ⟨k1, hk1⟩ := hk
  obtain ⟨k2, hk2⟩ := hc
  obtain ⟨k3, hk3, -⟩ := hal.2.2 _ _ hk1
  obtain ⟨k4, hk4, -⟩ := hal.2.2 _ _ hk2
  have hf : (u.vm.noted f.method.cls x.catchType (.cls cT)).assignable cell.cls cT = true := by rw [hal.assignable]; exact hfit
  simp [findHandler.go, hx, h0, ha, ht, hcell, hobj, hk3, hk4, hf, VmOp.dirties, VmOp.acts]
theorem am_fg_miss {Qh : Handler → Pre} {E : CtlPost} {d9 : Bool} {acts : List Action} {u : State} {f : JFrame} {a : Addr} {x : ExceptionTableEntry} {t : List ExceptionTableEntry} {cT : ClassId} {cell : Cell} (hx : covers x f.pc = true) (h0 : x.catchType ≠ 0) (hl : u.vm.ClassLinks e.platform f.method.cls x.catchType cT) (hcell : u.heap[a]? = some cell) (hobj : ∀ k, cell.vm ≠ .statics k)
    (hk : ∃ k, u.vm.classes[cell.cls]? = some k) (hc : ∃ k, u.vm.classes[cT]? = some k) (hfit : u.vm.assignable cell.cls cT = false) :
    wp (findHandler.go f a (x :: t)) Qh E e d9 acts u ↔ wp (findHandler.go f a t) Qh E e d9 acts (u.setVm (u.vm.noted f.method.cls x.catchType (.cls cT))) := by
  simp only [covers] at hx
  obtain ⟨ha, ht⟩ := (resolveClass_links e.toSetting hl).op (op := VmOp.resolveClass f.method.cls x.catchType) rfl
  have hal : u.vm.Alike (u.vm.noted f.method.cls x.catchType (.cls cT)) := (Vm.Alike.refl u.vm).noted _ _ _
  obtain ⟨k1, hk1⟩ := hk
  obtain ⟨k2, hk2⟩ := hc
  obtain ⟨k3, hk3, -⟩ := hal.2.2 _ _ hk1
  obtain ⟨k4, hk4, -⟩ := hal.2.2 _ _ hk2
  have hf : (u.vm.noted f.method.cls x.catchType (.cls cT)).assignable cell.cls cT = false := by rw [hal.assignable]; exact hfit
  conv => lhs; unfold findHandler.go
  simp [hx, h0, ha, ht, hcell, hobj, hk3, hk4, hf, VmOp.dirties, VmOp.acts]
/-- the search through a table of handlers: f: the class that a place of the pool names; x: the exception's class -/
theorem am_find {f9 : Nat → Nat} {xn : Nat → String} {own : String} {x t : Nat} {g : JFrame} {a : Addr} {cell : Cell} {cX : ClassId} (hg : g.method = m) (hown : s.vm.findClass own = some m.cls) (hpl : e.platform.magicAccessors = ({} : Platform).magicAccessors) (hcX : s.vm.findClass (xn x) = some cX) (hcls : cell.cls = cX) (hobj : cell.vm.isStatics = false) (hself : s.vm.assignable cX cX = true) :
    ∀ (tb : List ExceptionTableEntry) (u : State), s.WarmedH u.vm → u.heap[a]? = some cell → (∀ y ∈ tb, y.catchType ≠ 0 ∧ (Cond.classLink own y.catchType (xn (f9 y.catchType))).before args s = true ∧ (f9 y.catchType ≠ x → va_Nc (xn x) (xn (f9 y.catchType)) s)) →
      am_hf f9 (tb.map (fun h => (h.startPc, h.endPc, h.handlerPc, h.catchType))) g.pc x = some t → ∃ vm' : Vm, s.WarmedH vm' ∧ ∀ (Qh : Handler → Pre) (E : CtlPost) (d9 : Bool) (acts : List Action), wp (findHandler.go g a tb) Qh E e d9 acts u ↔ Qh (.found t) d9 acts (u.setVm vm') := by
  intro tb
  induction tb with
  | nil =>
    intro u _ _ _ h
    cases h
  | cons y r ih =>
    intro u hW hcell hall hf
    obtain ⟨h0, hlink, hnot⟩ := hall y List.mem_cons_self
    have hall' := fun z hz => hall z (List.mem_cons_of_mem _ hz)
    by_cases hcov : covers y g.pc = true
    · have hcov2 : y.startPc ≤ g.pc ∧ g.pc < y.endPc := by
        have := hcov
        simp only [covers, Bool.and_eq_true, decide_eq_true_eq] at this
        exact this
      obtain ⟨cT, hcT, hcl⟩ := Cond.classLink_spec hown hlink e.platform hpl
      obtain ⟨dk, _, _, kt, hd, _, _, _, _, hkt, _, hopen⟩ := hcl.here
      have hcl2 := hW.classLinks hcl
      have hW' : s.WarmedH (u.vm.noted m.cls y.catchType (.cls cT)) := hW.noted hd hopen (State.rightAt_cls hcl)
      have hal := hW.alike
      obtain ⟨kt', hkt', -⟩ := hal.2.2 _ _ hkt
      obtain ⟨kX, hkX⟩ := Vm.classAt_of_findClass hcX
      obtain ⟨kX', hkX', -⟩ := hal.2.2 _ _ hkX
      subst hg
      subst hcls
      by_cases hxx : f9 y.catchType = x
      · rw [hxx] at hcT
        cases hcX.symm.trans hcT
        have ht : y.handlerPc = t := by
          have h9 : (some y.handlerPc : Option Nat) = some t := by
            rw [← hf]
            exact (if_pos ⟨hcov2.1, hcov2.2, hxx⟩).symm
          exact Option.some.inj h9
        subst ht
        exact ⟨_, hW', fun Qh E d9 acts => am_fg_hit hcov h0 hcl2 hcell (VmData.ne_statics_of hobj) ⟨kX', hkX'⟩ ⟨kt', hkt'⟩ (by rw [hal.assignable]; exact hself)⟩
      · obtain ⟨c1, c2, n1, n2, n3⟩ := hnot hxx
        cases hcX.symm.trans n1
        cases hcT.symm.trans n2
        have hf' : am_hf f9 (r.map (fun h => (h.startPc, h.endPc, h.handlerPc, h.catchType))) g.pc x = some t := by
          rw [← hf]
          exact (if_neg (fun z => hxx z.2.2)).symm
        obtain ⟨vm', q1, q2⟩ := ih (u.setVm (u.vm.noted g.method.cls y.catchType (.cls cT))) hW' hcell hall' hf'
        exact ⟨vm', q1, fun Qh E d9 acts => (am_fg_miss hcov h0 hcl2 hcell (VmData.ne_statics_of hobj) ⟨kX', hkX'⟩ ⟨kt', hkt'⟩ (by rw [hal.assignable]; exact n3)).trans (q2 Qh E d9 acts)⟩
    · have hcov : covers y g.pc = false := by
        cases h : covers y g.pc
        · rfl
        · exact absurd h hcov
      have hf' : am_hf f9 (r.map (fun h => (h.startPc, h.endPc, h.handlerPc, h.catchType))) g.pc x = some t := by
        rw [← hf]
        refine (if_neg (fun z => ?_)).symm
        have : covers y g.pc = true := by
          simp only [covers, Bool.and_eq_true, decide_eq_true_eq]
          exact ⟨z.1, z.2.1⟩
        rw [hcov] at this
        cases this
      obtain ⟨vm', q1, q2⟩ := ih u hW hcell hall' hf'
      exact ⟨vm', q1, fun Qh E d9 acts => by rw [W.findHandler_go_skip hcov]; exact q2 Qh E d9 acts⟩
/-- an exception over the method's own frame, and a handler for it -/
theorem am_catch (X : Stand p l e R s m args below meth c T locs cells slots) {f9 : Nat → Nat} {xn : Nat → String} {own : String} {x t : Nat} {g : JFrame} {a : Addr} {cell : Cell} {cX : ClassId} (hg : g.method = m) (hown : s.vm.findClass own = some m.cls) (hcX : s.vm.findClass (xn x) = some cX) (hcls : cell.cls = cX) (hobj : cell.vm.isStatics = false) (hself : s.vm.assignable cX cX = true) (hcell : T.heap[a]? = some cell)
    (hall : ∀ y ∈ c.exceptionTable.toList, y.catchType ≠ 0 ∧ (Cond.classLink own y.catchType (xn (f9 y.catchType))).before args s = true ∧ (f9 y.catchType ≠ x → va_Nc (xn x) (xn (f9 y.catchType)) s))
    (hf : am_hf f9 (c.exceptionTable.toList.map (fun h => (h.startPc, h.endPc, h.handlerPc, h.catchType))) g.pc x = some t) :
    ∃ vm' : Vm, Stand p l e R s m args below meth c (T.setVm vm') locs cells slots ∧ ∀ target, Steps p.tables e below ((T.setVm vm').setTop { g with pc := t, stack := [.ref a] }) target → Steps p.tables e below ((T.setTop g).pushFrame (.throwing a)) target := by
  have hpl : e.platform.magicAccessors = ({} : Platform).magicAccessors := by rw [X.admits.platform]
  obtain ⟨vm', hW', hfind⟩ := am_find (g := g) (a := a) hg hown hpl hcX hcls hobj hself c.exceptionTable.toList ((T.setTop g).pushFrame (.throwing a)) X.warmed hcell hall hf
  refine ⟨vm', X.noted hW', fun target hrest => ?_⟩
  subst hg
  have h := X.here
  obtain ⟨hgo, hw⟩ := h.throwing a
  refine Steps.head hgo hw ?_
  have hcatch : (stepThrowing e ((T.setTop g).pushFrame (.throwing a)) a (.java g :: T.frames.tail)).Is ((((T.setTop g).pushFrame (.throwing a)).setVm vm').setFrames (.java { g with pc := t, stack := [.ref a] } :: T.frames.tail)) [] := by
    simp only [stepThrowing, searchFrame, vmDo]
    generalize hr : Sem.go _ e false [] ((T.setTop g).pushFrame (.throwing a)) = res
    obtain ⟨as, rfl, ha⟩ := Sem.eq_ok_of hr (a := Handler.found t) (s' := ((T.setTop g).pushFrame (.throwing a)).setVm vm') (acts' := []) (by simp [W.findHandler_eq (s := (T.setTop g).pushFrame (.throwing a)) X.method' X.code, hfind _ _ _ _])
    exact ⟨rfl, ha⟩
  rw [stepThread_throwing (frames_entered h.top _), hcatch.1]
  obtain ⟨g₀, hg⟩ := Option.isSome_iff_exists.mp h.top
  obtain ⟨r, hr⟩ := State.topJava?_eq_some.mp hg
  have hr' : (T.setVm vm').frames = .java g₀ :: r := hr
  rw [State.setTop_of_frames _ hr'] at hrest
  have e5 : ∀ (u : State) (F F2 : List Frame), ((u.setFrames F).setVm vm').setFrames F2 = (u.setVm vm').setFrames F2 := fun u F F2 => by
    have h1 : (u.setFrames F).setVm vm' = (u.setVm vm').setFrames F := rfl
    rw [h1, State.setFrames_setFrames]
  rw [hr, List.tail_cons, State.pushFrame, e5, State.setTop_of_frames _ hr, e5]
  exact hrest
/-- the walk, begun anew where it stands -/
theorem am_rebase (X : Stand p l e R s m args below meth c T locs cells slots) (hcn : cells + 1 ≤ R.cells) (hun : slots + 6 ≤ R.slots) : Stand p l e { frames := R.frames, cells := 1, slots := 6, locals := R.locals } (T.setFrames (.invoking m args :: below)) m args below meth c T [] 0 0 := by
  obtain ⟨g₀, hfr⟩ := X.frames_eq
  have hcur : T.cur < T.threads.size := State.cur_lt_of_frames hfr
  have hF : (T.setFrames (.invoking m args :: below)).frames = .invoking m args :: below := State.frames_setFrames _ hcur
  have hlim : e.platform.stackLimits (T.setFrames (.invoking m args :: below)).me = e.platform.stackLimits s.me := by rw [State.stackLimits_setFrames]; exact X.limits
  have hby : (T.setFrames (.invoking m args :: below)).me.stackBytes = s.me.stackBytes := by rw [State.stackBytes_setFrames]; exact X.bytes
  refine ⟨X.admits, X.cas, X.clock, hF, ?_, ?_, X.method', X.code, X.here, X.tail, State.WarmedH.refl (T.setFrames (.invoking m args :: below)), by rw [State.stackLimits_setFrames], by rw [State.stackBytes_setFrames], ?_⟩
  · have hr := X.room
    have e1 := State.localsInUse_invoking X.frames X.method X.code
    have e2 := State.localsInUse_invoking (s := T.setFrames (.invoking m args :: below)) hF X.method' X.code
    have h3 := X.cellsAbove hcn
    have h4 := X.slotsAbove hun
    have h5 : (T.setFrames (.invoking m args :: below)).slotsTrue = true := X.book
    simp only [State.hasRoom, Bool.and_eq_true, decide_eq_true_eq] at hr ⊢
    rw [hF, hlim, hby, e2]
    rw [X.frames, e1] at hr
    exact ⟨⟨⟨⟨hr.1.1.1.1, hr.1.1.1.2⟩, h3⟩, h4⟩, h5⟩
  · have hv : ∀ F : List Frame, (T.setFrames F).vm = T.vm := fun _ => rfl
    have ha := X.warmed.alike
    have hh := X.hears
    unfold State.hears at hh ⊢
    split at hh
    · rw [State.code?_eq] at hh ⊢
      rw [hv, ha.method?]
      exact hh
    · rfl
    · rfl
    · rw [hv, ha.method?]
      exact hh
  · obtain ⟨t, ht, -⟩ := State.frames_cons hfr
    obtain ⟨t2, ht2, -⟩ := State.frames_cons hF
    have h := (State.sameButNew.refl (T.setFrames (.invoking m args :: below)) ht2).setFrames T.frames (State.cur_lt_of_frames hF)
    rw [State.setFrames_setFrames, State.setFrames_self ht] at h
    exact h
set_option maxHeartbeats 1000000 in
/-- new X; dup; X.<init>(); athrow -/
theorem am_thr_new {G : am_G} {cl : List vw_C} {xn : Nat → String} {D : va_G} {cA : Nat → ClassId} {b0 b L : Nat} {xs : Nat → Int32} {h : am_H} {cc : ByteArray} {pc idx ic x mL : Nat} {ls : Array Slot} {st : List Value} {own : String} (htr : l.stackTraces = false) (hx : p.tables.exec = Jvm.exec) (hb : c.code = cc) (hml : c.maxLocals = mL) (hown : s.vm.findClass own = some m.cls)
    (hat : ∀ U : State, U.heap = H → s.WarmedH U.vm → (Cond.classLink own idx (xn x)).before args U = true ∧ (Cond.initialized (xn x)).before args U = true ∧ ∀ w ∈ Bundle.ownAtoms0 own ic (xn x) ["java/lang/RuntimeException", "java/lang/Exception"], w.before args U = true) (hfit : Bundle.fit (xn x) = true)
    (hd : decode cc pc = .ok (.new idx, 3)) (hd3 : decode cc (pc + 3) = .ok (.dup, 1)) (hd4 : decode cc (pc + 4) = .ok (.invokespecial ic, 3)) (hd7 : decode cc (pc + 7) = .ok (.athrow, 1)) (htab : c.exceptionTable.toList.map (fun h => (h.startPc, h.endPc, h.handlerPc, h.catchType)) = []) (hlk : meth.locks = false)
    (hcn : cells + 1 ≤ R.cells) (hun : slots + 6 ≤ R.slots) (hfr : 5 < R.frames) (hlo : am_w8 st + 81 ≤ R.locals) (hls : ls.size = mL) (hX : am_X G cl D cA b0 b L xs h H) (hS : va_S (fun q => b ≤ q) s.heap H locs) :
    W p l e R s m args below meth c H locs cells slots (am_MQ below (am_Qc G cl xn D cA b0 b L xs (.inr x) (am_setG h (am_g h + 1))) args s R.cells R.slots (fun q => b ≤ q)) (F0 m pc ls (st.map (am_tv b0 b))) := by
  intro T hT X
  have X9 := am_rebase X hcn hun
  obtain ⟨w1, w2, w3⟩ := hat (T.setFrames (.invoking m args :: below)) hT X.warmed
  have htr' : e.platform.stackTraces = false := by rw [X.admits.platform]; exact htr
  have hown9 : (T.setFrames (.invoking m args :: below)).vm.findClass own = some m.cls := by
    show T.vm.findClass own = some m.cls
    rw [X.warmed.alike.findClass]
    exact hown
  have hinst : (Cond.instantiable (xn x) 6).before args (T.setFrames (.invoking m args :: below)) = true := w3 _ (by simp [Bundle.ownAtoms0])
  obtain ⟨cX, kX0, hfX, hkX0, -⟩ := Cond.instantiable_spec hinst
  have hsz : H.size = b + (am_n h + am_g h) := by rw [hX.2.1]; omega
  have hout : ∀ y ∈ c.exceptionTable.toList, covers y (pc + 4 + 3) = false := by
    intro y hy
    have : c.exceptionTable.toList = [] := List.map_eq_nil_iff.mp htab
    rw [this] at hy
    cases hy
  have key : W p l e { frames := R.frames, cells := 1, slots := 6, locals := R.locals } (T.setFrames (.invoking m args :: below)) m args below meth c H [] 0 0 (fun U => U.status = .running ∧ Ended U below (.threw H.size) ∧ T.WarmedH U.vm ∧ (T.setFrames (.invoking m args :: below)).sameButNew ({ U with vm := T.vm } : State) [] 1 6 ∧ ∃ ce : Cell, U.heap[H.size]? = some ce ∧ ce.vm = .none ∧ T.vm.findClass (xn x) = some ce.cls) (F0 m pc ls (st.map (am_tv b0 b))) := by
    refine W.newcK (n := 6) hx hb hown9 w1 hinst w2 rfl hd (by show 0 + 1 ≤ 1; omega) (by show 0 + 6 ≤ 6; omega) hfX rfl fun H1 kX hkX e1 z1 o1 => ?_
    refine lv_dup (pc := pc + 3) hx hb hd3 rfl ?_
    intro T2 hT2 X2
    obtain ⟨U, hsteps, hrun, hend, hW, hsame, ce, hce, K⟩ := X2.ctorThrow0 hx htr' (own := own) (cls := xn x) (names := ["java/lang/RuntimeException", "java/lang/Exception"]) (ic := ic) hown9 hfit (by decide +kernel) w3 (fun y hy => by cases hy) hfX hkX (a := H.size) (by rw [hT2]; exact e1) (by show T.heap.size ≤ H.size; rw [hT]; exact Nat.le_refl _)
      (g := F0 m (pc + 4) ls (.ref H.size :: .ref H.size :: st.map (am_tv b0 b))) rfl (by rw [hml]; exact hls) rfl rfl (rest := st.map (am_tv b0 b)) rfl (by rw [hb]; exact hd4) (by rw [hb]; exact hd7) hout (by show 2 + 3 < R.frames; omega) (by
        show 2 * 0 + ((Value.ref H.size :: st.map (am_tv b0 b)).map fun v => v.category).sum + (13 * (2 + 1) + 41) ≤ R.locals
        have e9 : ((Value.ref H.size :: st.map (am_tv b0 b)).map fun v => v.category).sum = 1 + am_w8 st := by
          rw [List.map_cons, List.sum_cons, am_w8_map]
          rfl
        rw [e9]
        omega) hlk
    exact ⟨U, hsteps, hrun, hend, hW, hsame, ce, hce, K.vm, K.cls⟩
  obtain ⟨U, hst, h1, h2, h3, h4, ce, h5, h6, h7⟩ := key T hT X9
  have hold : ∀ q : Nat, q < H.size → U.heap[q]? = H[q]? := fun q hq => by
    obtain ⟨c9, hc9⟩ : ∃ c9, H[q]? = some c9 := ⟨H[q], Array.getElem?_eq_getElem hq⟩
    rw [hc9]
    exact h4.old_cell (a := q) (c := c9) (by show T.heap[q]? = some c9; rw [hT]; exact hc9)
  have hsz2 : U.heap.size = H.size + 1 := by
    have g1 : U.heap.size ≤ T.heap.size + 1 := h4.2.2.1
    have g2 := (Array.getElem?_eq_some_iff.mp h5).1
    rw [hT] at g1
    omega
  have hB : T.sameButNew (U.setVm T.vm) [] 1 6 := by
    obtain ⟨q1, q2⟩ := h4
    refine ⟨?_, q2⟩
    rw [State.setFrames_setFrames] at q1
    exact q1
  refine ⟨U, hst, .threw H.size, h1, h2, ⟨⟨ce, ?_, ?_, h6, ?_⟩, ⟨?_, ?_, ?_, ?_, ?_⟩, ?_, ?_⟩, locs ++ [], ⟨State.WarmedH.trans X.warmed h3, (X.same.trans (hB.setVm s.vm)).mono hcn hun⟩, fun q hq => ?_⟩
  · show Outcome.threw H.size = .threw (am_ad b0 b (am_n h + (am_g h + 1)))
    rw [hsz]
    rfl
  · show U.heap[am_ad b0 b (am_n h + (am_g h + 1))]? = some ce
    rw [show am_ad b0 b (am_n h + (am_g h + 1)) = b + (am_n h + am_g h) from rfl, ← hsz]
    exact h5
  · rw [h3.alike.findClass]
    exact h7
  · exact hX.1.kept (fun k q hk => hold q.1 ((hX.1 k q hk).lt))
  · rw [hsz2, hsz]
    show b + (am_n h + am_g h) + 1 = b + am_n h + (am_g h + 1)
    omega
  · exact hX.2.2.1
  · exact hX.2.2.2.1
  · intro q ce9 hb9 hc9
    by_cases hq : q < H.size
    · rw [hold q hq] at hc9
      exact hX.2.2.2.2 q ce9 hb9 hc9
    · have : q = H.size := by
        have := (Array.getElem?_eq_some_iff.mp hc9).1
        omega
      subst this
      cases h5.symm.trans hc9
      rw [h6]
      rfl
  · rw [hsz2]
    exact Nat.le_succ_of_le hS.1
  · intro q u1 u2
    rw [hold q (Nat.lt_of_lt_of_le u1 hS.1)]
    exact hS.2.1 q u1 u2
  · rw [List.append_nil] at hq
    exact hS.2.2 q hq
end AMT
end
section
/-! Part 25: the machine of part 10 is sound -/
def am_cw (M : am_M) : Cond := match am_hs M with
  | [] => .code (am_y M) (am_b M) (am_mL M) (am_rt M)
  | q :: r => .codeWith (am_y M) (am_b M) (am_mL M) (am_rt M) (q :: r)
def am_rm (d : Nat) (M : am_M) : Room := { frames := d, cells := am_mc M, slots := am_ms M, locals := 40 * d }
/-- a method of the program -/
def am_okm (G : am_G) (own : Nat → String) (WS : List Cond) (j : Nat) : Prop :=
  plainFor (am_y (am_mt G j)) = true ∧ (am_y (am_mt G j)).cls = own (am_o (am_mt G j)) ∧ ((am_y (am_mt G j)).cls ≠ "java/lang/invoke/MethodHandle" ∧ (am_y (am_mt G j)).cls ≠ "java/lang/invoke/VarHandle") ∧
  (parseMethodDescriptor (am_y (am_mt G j)).desc).map (fun d => d.parameters.length) = some (am_np (am_mt G j)) ∧ am_mL (am_mt G j) ≤ 21 ∧ Cond.initialized (am_y (am_mt G j)).cls ∈ WS ∧ am_cw (am_mt G j) ∈ WS
/-- a word that stays true while the tables get warmer -/
def am_gw (w : Cond) : Prop := ∀ (s U : State) (args a' : Array Value), s.WarmedH U.vm → w.before args s = true → w.before a' U = true
/-- words on statics of Throwable, which look at the heap too -/
def am_zw : List Cond := [.isRef (.static Bundle.tN "UNASSIGNED_STACK" Bundle.steD), .isRef (.static Bundle.tN "SUPPRESSED_SENTINEL" Bundle.listD), .laysStatic Bundle.tN "UNASSIGNED_STACK" Bundle.steD, .laysStatic Bundle.tN "SUPPRESSED_SENTINEL" Bundle.listD]
/-- the words hold what the machine takes for granted -/
def am_WF (G : am_G) (cl : List vw_C) (own : Nat → String) (xn : Nat → String) (host : String) (WS : List Cond) : Prop :=
  (∀ w ∈ WS, am_gw w) ∧
  (∀ o idx ci fi, am_pl G o idx = (1, ci, fi, 0) → am_ok G cl own WS ci) ∧
  (∀ o idx ci x y, am_pl G o idx = (3, ci, x, y) → am_ok G cl own WS ci ∧ Cond.classLink (own o) idx (own ci) ∈ WS ∧ Cond.instantiable (own ci) (am_nf G ci) ∈ WS ∧ Cond.initialized (own ci) ∈ WS) ∧
  (∀ o idx x t y, am_pl G o idx = (3, x, t, y) → (t = 103 ∨ t = 104) → Cond.classLink (own o) idx (own (am_ac G t)) ∈ WS ∧ Cond.arrayOver (.object (own (am_ac G t))) ∈ WS) ∧
  (∀ t, t = 103 ∨ t = 104 → am_ok G cl own WS (am_ac G t)) ∧
  (Cond.arrayClass (newarray.typeOf .int) ∈ WS ∧ Cond.arrayClass (newarray.typeOf .boolean) ∈ WS ∧ Cond.arrayClass (newarray.typeOf .long) ∈ WS) ∧
  (∀ o idx x, am_kc G o idx = some (.int x) → Jvm.Cond.constant (own o) idx x ∈ WS) ∧ (∀ o idx x, am_kc G o idx = some (.long x) → Jvm.Cond.constantLong (own o) idx x ∈ WS) ∧
  (∀ o idx j z, am_pl G o idx = (2, j, 0, z) → am_okm G own WS j ∧ am_hs (am_mt G j) = [] ∧ (∃ T, cl[am_o (am_mt G j)]? = some (own (am_o (am_mt G j)), T, am_nf G (am_o (am_mt G j)))) ∧ am_o (am_mt G j) < 100 ∧ Cond.methodLink (own o) idx (am_y (am_mt G j)) ∈ WS ∧ Cond.instanceMethod (am_y (am_mt G j)) ∈ WS ∧ Cond.selects (am_y (am_mt G j)).cls (am_y (am_mt G j)) (am_y (am_mt G j)) ∈ WS) ∧
  (∀ o idx j z, am_pl G o idx = (2, j, 3, z) → am_okm G own WS j ∧ am_hs (am_mt G j) = [] ∧ (∃ T, cl[am_o (am_mt G j)]? = some (own (am_o (am_mt G j)), T, am_nf G (am_o (am_mt G j)))) ∧ am_o (am_mt G j) < 100 ∧ Cond.methodLinkNest (own o) idx (am_y (am_mt G j)) host ∈ WS ∧ Cond.instanceMethod (am_y (am_mt G j)) ∈ WS ∧ Cond.selects (am_y (am_mt G j)).cls (am_y (am_mt G j)) (am_y (am_mt G j)) ∈ WS) ∧
  (∀ o idx j z, am_pl G o idx = (2, j, 1, z) → am_okm G own WS j ∧ Cond.methodLink (own o) idx (am_y (am_mt G j)) ∈ WS ∧ Cond.static (am_y (am_mt G j)) ∈ WS) ∧
  (∀ o idx j z, am_pl G o idx = (2, j, 4, z) → am_okm G own WS j ∧ Cond.methodLinkNest (own o) idx (am_y (am_mt G j)) host ∈ WS ∧ Cond.static (am_y (am_mt G j)) ∈ WS) ∧
  (∀ o idx j z, am_pl G o idx = (2, j, 2, z) → am_okm G own WS j ∧ am_hs (am_mt G j) = [] ∧ am_rt (am_mt G j) = none ∧ (am_y (am_mt G j)).name = "<init>" ∧ Cond.methodLink (own o) idx (am_y (am_mt G j)) ∈ WS ∧ Cond.instanceMethod (am_y (am_mt G j)) ∈ WS) ∧
  (∀ o idx x y z, am_pl G o idx = (7, x, y, z) → Cond.methodLink (own o) idx Lib.objectInit ∈ WS ∧ Cond.instanceMethod Lib.objectInit ∈ WS ∧ Cond.code Lib.objectInit ⟨#[0xb1]⟩ 1 none ∈ WS) ∧
  (∀ o idx x y z, am_pl G o idx = (8, x, y, z) → Cond.methodLink (own o) idx arraycopyName ∈ WS ∧ Cond.native arraycopyName ∈ WS ∧ Cond.static arraycopyName ∈ WS ∧ Cond.initialized "java/lang/System" ∈ WS) ∧
  (∀ o idx x y z, am_pl G o idx = (10, x, y, z) → Cond.methodLink (own o) idx Lib.Math.min.name ∈ WS ∧ Cond.static Lib.Math.min.name ∈ WS ∧ Cond.initialized "java/lang/Math" ∈ WS ∧ Cond.code Lib.Math.min.name Lib.Math.min.code 2 (some .int) ∈ WS) ∧
  (∀ o idx x y z, am_pl G o idx = (11, x, y, z) → Cond.methodLink (own o) idx Lib.Math.max.name ∈ WS ∧ Cond.static Lib.Math.max.name ∈ WS ∧ Cond.initialized "java/lang/Math" ∈ WS ∧ Cond.code Lib.Math.max.name Lib.Math.max.code 2 (some .int) ∈ WS) ∧
  (∀ j, ∀ q ∈ am_hs (am_mt G j), q.2.2.2 ≠ 0 ∧ Cond.classLink (own (am_o (am_mt G j))) q.2.2.2 (xn (am_pl G (am_o (am_mt G j)) q.2.2.2).2.1) ∈ WS ∧ (am_pl G (am_o (am_mt G j)) q.2.2.2).2.1 < 4 ∧ ∀ x, x < 4 → Cond.castable (xn x) (xn x) ∈ WS) ∧
  (∀ o idx x ic z, am_pl G o idx = (5, x, ic, z) → x < 4 ∧ Cond.classLink (own o) idx (xn x) ∈ WS ∧ Cond.initialized (xn x) ∈ WS ∧ Bundle.fit (xn x) = true ∧ ∀ w ∈ Bundle.ownAtoms0 (own o) ic (xn x) ["java/lang/RuntimeException", "java/lang/Exception"], w ∈ WS ∨ w ∈ am_zw)
section AMS
variable {p : Program} {l : Launch} {e : Env} {R : Room} {s : State} {m : MethodId} {args : Array Value} {below : List Frame} {meth : Method} {c : Code} {H : Heap} {locs : List Loc} {Qf : State → Prop}
variable {G : am_G} {cl : List vw_C} {own xn : Nat → String} {host : String} {WS : List Cond} {D : va_G} {cA : Nat → ClassId} {b0 b L : Nat} {xs : Nat → Int32} {Z : State → Prop} {M : am_M}
theorem am_named (hw : (am_cw M).before args s = true) : ∃ mk methM cM, s.methodNamed? (am_y M) = some mk ∧ s.vm.method? mk = some methM ∧ methM.code = some cM ∧ cM.maxLocals = am_mL M ∧ parseMethodDescriptor (am_y M).desc = some methM.sig := by
  unfold am_cw at hw
  split at hw
  · obtain ⟨mk, hn⟩ := Cond.code_named hw
    obtain ⟨methM, cM, h1, h2, -, h4, -, -, -, h8⟩ := Cond.code_spec hn hw
    exact ⟨mk, methM, cM, hn, h1, h2, h4, h8⟩
  · obtain ⟨mk, methM, cM, hn, h1, h2, -, h4, -, -, -, h8⟩ := Cond.codeWith_spec hw
    exact ⟨mk, methM, cM, hn, h1, h2, h4, h8⟩
theorem am_tab (hw : (am_cw M).before args s = true) (hn : s.methodNamed? (am_y M) = some m) (hm : s.vm.method? m = some meth) (hc : meth.code = some c) : c.exceptionTable.toList.map (fun h => (h.startPc, h.endPc, h.handlerPc, h.catchType)) = am_hs M := by
  unfold am_cw at hw
  split at hw
  · rename_i hs
    obtain ⟨meth', c', hm', hc', -, -, -, -, he', -⟩ := Cond.code_spec hn hw
    cases hm.symm.trans hm'
    cases hc.symm.trans hc'
    rw [hs]
    have : c.exceptionTable = #[] := by simpa using he'
    rw [this]
    rfl
  · rename_i q r hs
    obtain ⟨mk, meth', c', hn', hm', hc', -, -, ht, -, -, -⟩ := Cond.codeWith_spec hw
    cases hn.symm.trans hn'
    cases hm.symm.trans hm'
    cases hc.symm.trans hc'
    rw [hs]
    exact ht
theorem am_words (hgood : ∀ w ∈ WS, am_gw w) {j : Nat} (hok : am_okm G own WS j) (hts : ∀ w ∈ WS, w.before args s = true) : ∀ w ∈ am_cw (am_mt G j) :: WS, ∀ (a' : Array Value) (U : State), s.WarmedH U.vm → w.before a' U = true := fun w hw a' U hW => by
  have hw' : w ∈ WS := by
    rcases List.mem_cons.mp hw with h | h
    · rw [h]; exact hok.2.2.2.2.2.2
    · exact h
  exact hgood w hw' _ _ _ _ hW (hts w hw')
theorem am_back (hgood : ∀ w ∈ WS, am_gw w) {j : Nat} (hok : am_okm G own WS j) (hts : ∀ w ∈ WS, w.before args s = true) {rm : Room} {Pc : Array Value → State → Prop} {Qc : Array Value → State → Outcome → State → Prop} {mc ms : Nat} {free : Addr → Prop}
    (hM : Met l (am_y (am_mt G j)) (am_cw (am_mt G j) :: WS) rm Pc Qc mc ms free) (hblind : FrameBlind Pc) (hrc : rm.cells = mc) (hrs : rm.slots = ms) (hfr : rm.frames + 1 ≤ R.frames) (hlo : 8 + (am_mL (am_mt G j) + 11) + rm.locals ≤ R.locals) :
    Back l R p e below s args (am_y (am_mt G j)) 3 8 (PreOf R mc ms Pc) (PostOf Qc mc ms free) := by
  have hws := am_words hgood hok hts
  have hin : ∀ (a' : Array Value) (U : State), s.WarmedH U.vm → (Cond.initialized (am_y (am_mt G j)).cls).before a' U = true := fun a' U hW => hws _ (List.mem_cons_of_mem _ hok.2.2.2.2.2.1) a' U hW
  cases hh : am_hs (am_mt G j) with
  | nil => exact back_of (bytes := am_b (am_mt G j)) (maxL := am_mL (am_mt G j)) (ret := am_rt (am_mt G j)) hM hblind hrc hrs hfr hlo hws (by unfold am_cw; rw [hh]; exact List.mem_cons_self) hin
  | cons q r => exact va_backW (hh := q :: r) (bytes := am_b (am_mt G j)) (maxL := am_mL (am_mt G j)) (ret := am_rt (am_mt G j)) hM hblind hrc hrs hfr hlo hws (by unfold am_cw; rw [hh]; exact List.mem_cons_self) hin
theorem am_Y_mv {U : State} (hY : am_Y G cl own D cA b0 b L xs s) (hal : s.vm.Alike U.vm) (hU : U.heap = H) {h : am_H} (hX : am_X G cl D cA b0 b L xs h H) (hS : va_S (fun q => b ≤ q) s.heap H locs) : am_Y G cl own D cA b0 b L xs U := by
  obtain ⟨h1, h2, h3, h4, h5⟩ := hY
  refine ⟨va_K.moved hal h1, h2, by rw [hU]; exact Nat.le_trans h3 hS.1, (h4.moved hal).kept ?_, by rw [hU]; exact hX.2.2.2.2⟩
  rw [hU]
  exact hS.2.1 b0 (Nat.lt_of_lt_of_le h2 h3) (by show ¬ b ≤ b0; omega)
theorem am_blind (hZm : ∀ (s U : State), Z s → s.vm.Alike U.vm → (∀ q : Nat, q < s.heap.size → ¬ b ≤ q → U.heap[q]? = s.heap[q]?) → Z U) (as : List Value) (h : am_H) : FrameBlind (am_Pc G cl own D cA b0 b L xs Z as h) := fun a U g mk q => by
  obtain ⟨q0, q1, ⟨h1, h2, h3, h4, h5⟩, q3⟩ := q
  exact ⟨q0, q1, ⟨va_K.moved (u := U) (U := U.calling g mk a) (Vm.Alike.refl U.vm) h1, h2, h3, va_X.moved (u := U) (U := U.calling g mk a) (Vm.Alike.refl U.vm) h4, h5⟩, hZm U (U.calling g mk a) q3 (Vm.Alike.refl U.vm) (fun _ _ _ => rfl)⟩
/-- what a walk of M knows -/
def am_F (own : Nat → String) (WS : List Cond) (M : am_M) (p : Program) (m : MethodId) (args : Array Value) (meth : Method) (c : Code) (s : State) : Prop :=
  p.tables.exec = Jvm.exec ∧ c.code = am_b M ∧ c.maxLocals = am_mL M ∧ s.vm.findClass (own (am_o M)) = some m.cls ∧ (∀ w ∈ WS, w.before args s = true) ∧ meth.sig.returnType = am_rt M ∧ meth.locks = false ∧ meth.name = (am_y M).name ∧ c.exceptionTable.toList.map (fun h => (h.startPc, h.endPc, h.handlerPc, h.catchType)) = am_hs M
/-- what the rest of a walk gives -/
def am_K (k : Nat → List (Nat × Value) → List Value → am_H → Nat → Nat → Prop) (G : am_G) (cl : List vw_C) (D : va_G) (cA : Nat → ClassId) (b0 b L : Nat) (xs : Nat → Int32) (M : am_M) (p : Program) (l : Launch) (e : Env) (R : Room) (s : State) (m : MethodId) (args : Array Value) (below : List Frame) (meth : Method) (c : Code) (Qf : State → Prop) : Prop :=
  ∀ (pc : Nat) (al : List (Nat × Value)) (st : List Value) (h : am_H) (cn un : Nat) (H : Heap) (locs : List Loc) (ls : Array Slot), k pc al st h cn un → am_X G cl D cA b0 b L xs h H → va_S (fun q => b ≤ q) s.heap H locs → lv_has ls (am_mL M) (am_tl b0 b al) → cn ≤ am_mc M → un ≤ am_ms M →
    W p l e R s m args below meth c H locs cn un Qf (F0 m pc ls (st.map (am_tv b0 b)))
theorem am_snd_dflt {k : Nat → List (Nat × Value) → List Value → am_H → Nat → Nat → Prop} (hF : am_F own WS M p m args meth c s) (hk : am_K k G cl D cA b0 b L xs M p l e R s m args below meth c Qf) {ins : Instr} {len pc cn un : Nat} {al : List (Nat × Value)} {st : List Value} {h : am_H} {ls : Array Slot} (hd : decode (am_b M) pc = .ok (ins, len)) (hh : am_dflt k ins len pc al st h cn un)
    (hX : am_X G cl D cA b0 b L xs h H) (hS : va_S (fun q => b ≤ q) s.heap H locs) (hl : lv_has ls (am_mL M) (am_tl b0 b al)) (hc : cn ≤ am_mc M) (hu : un ≤ am_ms M) : W p l e R s m args below meth c H locs cn un Qf (F0 m pc ls (st.map (am_tv b0 b))) := by
  unfold am_dflt at hh
  split at hh
  · rename_i q hq
    obtain ⟨hlen, hh⟩ := hh
    exact am_r_pure hF.1 hF.2.1 hq hd hlen (hk _ _ _ _ _ _ _ _ _ hh hX hS hl hc hu)
  · split at hh
    · rename_i q hq
      obtain ⟨hlen, ht, hh⟩ := hh
      subst hlen
      refine am_r_br hF.1 hF.2.1 hq hd ht (fun z => ?_) (fun z => ?_)
      · rw [if_pos z] at hh
        exact hk _ _ _ _ _ _ _ _ _ hh hX hS hl hc hu
      · rw [if_neg (by rw [z]; decide)] at hh
        exact hk _ _ _ _ _ _ _ _ _ hh hX hS hl hc hu
    · split at hh
      · rename_i q hq
        obtain ⟨ht, hh⟩ := hh
        exact am_r_sw hF.1 hF.2.1 hq hd ht (hk _ _ _ _ _ _ _ _ _ hh hX hS hl hc hu)
      · exact hh.elim
end AMS
end
section
/-! Part 26: the machine is sound: calls, all instructions, all methods -/
section AMS2
variable {p : Program} {l : Launch} {e : Env} {s : State} {m : MethodId} {args : Array Value} {below : List Frame} {meth : Method} {c : Code} {H : Heap} {locs : List Loc}
variable {G : am_G} {cl : List vw_C} {own xn : Nat → String} {host : String} {WS : List Cond} {D : va_G} {cA : Nat → ClassId} {b0 b L d : Nat} {xs : Nat → Int32} {Z : State → Prop} {M : am_M}
/-- contracts of all methods, d calls deep -/
def am_HC (C : Nat → List Value → am_H → am_O → am_H → Prop) (l : Launch) (G : am_G) (cl : List vw_C) (own xn : Nat → String) (WS : List Cond) (D : va_G) (cA : Nat → ClassId) (b0 b L d : Nat) (xs : Nat → Int32) (Z : State → Prop) : Prop :=
  ∀ (j : Nat) (as : List Value) (h : am_H) (o : am_O) (h' : am_H), C j as h o h' → am_okm G own WS j →
    am_MX l (am_y (am_mt G j)) (am_cw (am_mt G j) :: WS) (am_rm d (am_mt G j)) (am_Pc G cl own D cA b0 b L xs Z as h) (am_Qc G cl xn D cA b0 b L xs o h') (am_mc (am_mt G j)) (am_ms (am_mt G j)) (fun q => b ≤ q)
theorem am_snd_inv (hZ3 : ∀ s : State, Z s → ∀ x y, x < 4 → y < 4 → x ≠ y → va_Nc (xn x) (xn y) s) {C : Nat → List Value → am_H → am_O → am_H → Prop} {k : Nat → List (Nat × Value) → List Value → am_H → Nat → Nat → Prop} {oM : am_O} {hM : am_H} (hWF : am_WF G cl own xn host WS) (hZm : ∀ (s U : State), Z s → s.vm.Alike U.vm → (∀ q : Nat, q < s.heap.size → ¬ b ≤ q → U.heap[q]? = s.heap[q]?) → Z U)
    (hMj : ∃ jM, M = am_mt G jM) (hC : am_HC C l G cl own xn WS D cA b0 b L d xs Z) (hF : am_F own WS M p m args meth c s) (hY : am_Y G cl own D cA b0 b L xs s) (hZ : Z s)
    (hk : am_K k G cl D cA b0 b L xs M p l e (am_rm (d + 1) M) s m args below meth c (am_MQ below (am_Qc G cl xn D cA b0 b L xs oM hM) args s (am_mc M) (am_ms M) (fun q => b ≤ q)))
    {j pc cn un : Nat} {as : List Value} {al : List (Nat × Value)} {rest : List Value} {h : am_H} {ls : Array Slot} {st : List Value} {ig : Instr} {mk : MethodId} (hok : am_okm G own WS j) (hh : am_inv C G M k (fun o1 h1 => o1 = oM ∧ h1 = hM) j as pc al rest h cn un)
    (hn : s.methodNamed? (am_y (am_mt G j)) = some mk) (hd : decode (am_b M) pc = .ok (ig, 3))
    (hgo : am_Go p l e (am_rm (d + 1) M) s m args below meth c H locs cn un (F0 m pc ls (st.map (am_tv b0 b))) (rest.map (am_tv b0 b)) mk (as.map (am_tv b0 b)).toArray)
    (hX : am_X G cl D cA b0 b L xs h H) (hS : va_S (fun q => b ≤ q) s.heap H locs) (hl : lv_has ls (am_mL M) (am_tl b0 b al)) :
    W p l e (am_rm (d + 1) M) s m args below meth c H locs cn un (am_MQ below (am_Qc G cl xn D cA b0 b L xs oM hM) args s (am_mc M) (am_ms M) (fun q => b ≤ q)) (F0 m pc ls (st.map (am_tv b0 b))) := by
  obtain ⟨hw8, hcn, hun, o, h', hCj, hh⟩ := hh
  have hMX := hC j as h o h' hCj hok
  have hP : ∀ U : State, U.heap = H → s.WarmedH U.vm → am_Pc G cl own D cA b0 b L xs Z as h (as.map (am_tv b0 b)).toArray U := fun U hU hW =>
    ⟨rfl, by rw [hU]; exact hX, am_Y_mv hY hW.alike hU hX hS, hZm s U hZ hW.alike (fun q h1 h2 => by rw [hU]; exact hS.2.1 q h1 h2)⟩
  have hlo : 8 + (am_mL (am_mt G j) + 11) + (am_rm d (am_mt G j)).locals ≤ (am_rm (d + 1) M).locals := by
    have := hok.2.2.2.2.1
    show 8 + (am_mL (am_mt G j) + 11) + 40 * d ≤ 40 * (d + 1)
    omega
  cases o with
  | inl v =>
    have hh : k (pc + 3) al (v.toList ++ rest) h' (cn + am_mc (am_mt G j)) (un + am_ms (am_mt G j)) := hh
    have hB := am_back (R := am_rm (d + 1) M) (p := p) (e := e) (below := below) hWF.1 hok hF.2.2.2.2.1 (am_MX_met (fun a st o t hq => ⟨_, hq.1⟩) hMX) (am_blind hZm as h) rfl rfl (Nat.le_refl _) hlo
    refine am_ret hgo hB hn rfl (by rw [hF.2.2.1]; exact hl.1) (by rw [hF.2.1]; exact hd) (by show 2 * 0 + _ ≤ 8; rw [am_w8_map]; omega) hcn hun hP hS (fun H1 locs1 hX1 hS1 => ?_)
    have := hk _ _ _ _ _ _ H1 locs1 ls hh hX1 hS1 hl hcn hun
    rw [List.map_append] at this
    have e9 : (v.toList).map (am_tv b0 b) = (v.map (am_tv b0 b)).toList := by cases v <;> rfl
    rw [e9] at this
    exact this
  | inr x =>
    obtain ⟨hx, hb, hml, hown, hts, hr, hlk, hnm, htab⟩ := id hF
    obtain ⟨mk', methM, cM, hn', hm, hcM, hlM, -⟩ := am_named (hts _ hok.2.2.2.2.2.2)
    cases hn.symm.trans hn'
    have hws := am_words hWF.1 hok hts
    intro T hT X
    obtain ⟨vm₁, hW₁, X₁, hst⟩ := hgo T hT X
    obtain ⟨xa, T', t, st0, Ls, X', hL, e1, e2, e3, ⟨⟨ce, z1, z2, z3, z4⟩, hX', hF'⟩, hsteps⟩ := am_thr (maxL := am_mL (am_mt G j)) hMX (am_blind hZm as h) rfl rfl (Nat.le_refl _) hlo hws (by rw [X₁.warmed.alike.method?]; exact hm) hcM hlM (fun a' U hW => hws _ (List.mem_cons_of_mem _ hok.2.2.2.2.2.1) a' U hW) X₁ (g := { F0 m pc ls (st.map (am_tv b0 b)) with stack := rest.map (am_tv b0 b) }) rfl (by rw [hml]; exact hl.1) (by rw [hb]; exact hd) (by show 2 * 0 + _ ≤ 8; rw [am_w8_map]; omega) (X₁.named hn) hcn hun (hP _ hT hW₁) (fun st oc t hq => by obtain ⟨⟨ce, h1, -⟩, -⟩ := hq; exact ⟨_, h1⟩)
    have z1 : Outcome.threw xa = .threw (am_ad b0 b (am_n h' + am_g h')) := z1
    cases z1
    have e3 : st0.heap = H := e3.trans hT
    have hz : H.size ≤ T'.heap.size := by rw [e1, ← e3]; exact hF'.1
    have hkp : ∀ q : Nat, q < H.size → ¬ b ≤ q → T'.heap[q]? = H[q]? := fun q u1 u2 => by
      rw [e1, ← e3]
      exact hF'.2 q (by rw [e3]; exact u1) u2
    have hS' : va_S (fun q => b ≤ q) s.heap T'.heap (locs ++ Ls) := ⟨Nat.le_trans hS.1 hz, fun q u1 u2 => (hkp q (Nat.lt_of_lt_of_le u1 hS.1) u2).trans (hS.2.1 q u1 u2), fun q hq => by
      rcases List.mem_append.mp hq with h9 | h9
      · exact hS.2.2 q h9
      · exact hL q h9⟩
    have hX' : am_X G cl D cA b0 b L xs h' T'.heap := by rw [e1]; exact hX'
    have z2 : T'.heap[am_ad b0 b (am_n h' + am_g h')]? = some ce := by rw [e1]; exact z2
    have z4 : s.vm.findClass (xn x) = some ce.cls := by
      have : T'.vm.findClass (xn x) = some ce.cls := by rw [e2]; exact z4
      rw [X'.warmed.alike.findClass] at this
      exact this
    unfold am_cont at hh
    simp only at hh
    split at hh
    · rename_i tp htp
      obtain ⟨hx4, hh⟩ := hh
      obtain ⟨jM, rfl⟩ := hMj
      obtain ⟨wgood, wf1, wf3, wf4, wac, war, wkc, wkl, wv0, wv3, ws1, ws4, wi2, wo7, wc8, wm10, wm11, whs, wx5⟩ := id hWF
      have hall : ∀ y ∈ c.exceptionTable.toList, y.catchType ≠ 0 ∧ (Cond.classLink (own (am_o (am_mt G jM))) y.catchType (xn (am_pl G (am_o (am_mt G jM)) y.catchType).2.1)).before args s = true ∧ ((am_pl G (am_o (am_mt G jM)) y.catchType).2.1 ≠ x → va_Nc (xn x) (xn (am_pl G (am_o (am_mt G jM)) y.catchType).2.1) s) := by
        intro y hy
        have hq : (y.startPc, y.endPc, y.handlerPc, y.catchType) ∈ am_hs (am_mt G jM) := by
          rw [← htab]
          exact List.mem_map.mpr ⟨y, hy, rfl⟩
        obtain ⟨g1, g2, g3, g5⟩ := whs jM _ hq
        exact ⟨g1, hts _ g2, fun g4 => hZ3 s hZ _ _ hx4 g3 (Ne.symm g4)⟩
      have hne : ∃ q, q ∈ am_hs (am_mt G jM) := by
        cases hz9 : am_hs (am_mt G jM) with
        | nil => rw [hz9] at htp; cases htp
        | cons q r => exact ⟨q, List.mem_cons_self⟩
      obtain ⟨q9, hq9⟩ := hne
      have hself : s.vm.assignable ce.cls ce.cls = true := by
        obtain ⟨c3, cT, hc3, hcT, hasg⟩ := Cond.castable_spec (hts _ ((whs jM q9 hq9).2.2.2 x hx4))
        cases z4.symm.trans hc3
        cases z4.symm.trans hcT
        exact hasg
      obtain ⟨vm', X9, hst9⟩ := am_catch X' (f9 := fun i => (am_pl G (am_o (am_mt G jM)) i).2.1) (xn := xn) (x := x) (t := tp) (g := { F0 m pc ls (st.map (am_tv b0 b)) with stack := rest.map (am_tv b0 b) }) rfl hown z4 rfl (by rw [z3]; rfl) hself z2 hall (by rw [htab]; exact htp)
      obtain ⟨t2, x1, x2⟩ := hk _ _ _ _ _ _ T'.heap (locs ++ Ls) ls hh hX' hS' hl hcn hun (T'.setVm vm') rfl X9
      exact ⟨t2, hst _ (hsteps.trans (hst9 _ x1)), x2⟩
    · obtain ⟨hs0, rfl, rfl⟩ := hh
      have hout : ∀ y ∈ c.exceptionTable.toList, covers y pc = false := by
        rw [hs0] at htab
        intro y hy
        have : c.exceptionTable.toList = [] := List.map_eq_nil_iff.mp htab
        rw [this] at hy
        cases hy
      obtain ⟨w1, w2, w3, w4, w5⟩ := (stand_widen X' hcn hun).leaveThrown (am_ad b0 b (am_n h' + am_g h')) (g := { F0 m pc ls (st.map (am_tv b0 b)) with stack := rest.map (am_tv b0 b) }) rfl rfl rfl hout hlk
      exact ⟨_, hst _ (hsteps.trans w1), _, w2, w3, ⟨⟨ce, rfl, z2, z3, by
        have : T'.vm.findClass (xn x) = some ce.cls := by rw [X'.warmed.alike.findClass]; exact z4
        exact this⟩, hX', ⟨hS'.1, fun q u1 u2 => hS'.2.1 q u1 u2⟩⟩, _, ⟨w4, w5⟩, hS'.2.2⟩
theorem am_split (f : Value → Value) (st : List Value) (n : Nat) : st.map f = ((st.take n).reverse.map f).reverse ++ (st.drop n).map f := by
  rw [List.map_reverse, List.reverse_reverse, ← List.map_append, List.take_append_drop]
theorem am_len9 (f : Value → Value) {st : List Value} {n : Nat} (h : n ≤ st.length) : ((st.take n).reverse.map f).length = n := by
  rw [List.length_map, List.length_reverse, List.length_take]
  omega
theorem am_np9 {j : Nat} (hok : am_okm G own WS j) {sig : MethodDescriptor} (h : parseMethodDescriptor (am_y (am_mt G j)).desc = some sig) : sig.parameters.length = am_np (am_mt G j) := by
  have := hok.2.2.2.1
  rw [h] at this
  exact Option.some.inj this
theorem am_recv9 (hY : am_Y G cl own D cA b0 b L xs s) {h : am_H} (hX : am_X G cl D cA b0 b L xs h H) {ci a : Nat} {T : u_T} (hc : cl[ci]? = some (own ci, T, am_nf G ci)) (hlt : ci < 100) (hs : am_sh h a = some (ci, am_nf G ci)) : ∃ cell : Cell, H[am_ad b0 b a]? = some cell ∧ cell.vm.isStatics = false ∧ s.vm.findClass (own ci) = some cell.cls := by
  obtain ⟨-, -, hat⟩ := am_obj_at hX hs (by omega)
  rw [am_ce_o hs hlt] at hat
  exact va_recv hY.1 hX.1 hc hat
set_option maxHeartbeats 4000000 in
theorem am_snd_do (hZ3 : ∀ s : State, Z s → ∀ x y, x < 4 → y < 4 → x ≠ y → va_Nc (xn x) (xn y) s) {oM : am_O} (hlv : ∀ x, oM = .inr x → 5 < d + 1) (htr : l.stackTraces = false) (hZ2 : ∀ s : State, Z s → ∀ a9 : Array Value, ∀ w ∈ am_zw, w.before a9 s = true) {C : Nat → List Value → am_H → am_O → am_H → Prop} {k : Nat → List (Nat × Value) → List Value → am_H → Nat → Nat → Prop} {hM : am_H} (hWF : am_WF G cl own xn host WS) (hZm : ∀ (s U : State), Z s → s.vm.Alike U.vm → (∀ q : Nat, q < s.heap.size → ¬ b ≤ q → U.heap[q]? = s.heap[q]?) → Z U)
    (hMj : ∃ jM, M = am_mt G jM) (hC : am_HC C l G cl own xn WS D cA b0 b L d xs Z) (hF : am_F own WS M p m args meth c s) (hY : am_Y G cl own D cA b0 b L xs s) (hZ : Z s)
    (hk : am_K k G cl D cA b0 b L xs M p l e (am_rm (d + 1) M) s m args below meth c (am_MQ below (am_Qc G cl xn D cA b0 b L xs oM hM) args s (am_mc M) (am_ms M) (fun q => b ≤ q)))
    {ins : Instr} {len pc cn un : Nat} {al : List (Nat × Value)} {h : am_H} {ls : Array Slot} {st : List Value} (hd : decode (am_b M) pc = .ok (ins, len)) (hh : am_do C G M k (fun o1 h1 => o1 = oM ∧ h1 = hM) ins len pc al st h cn un)
    (hX : am_X G cl D cA b0 b L xs h H) (hS : va_S (fun q => b ≤ q) s.heap H locs) (hl : lv_has ls (am_mL M) (am_tl b0 b al)) (hc : cn ≤ am_mc M) (hu : un ≤ am_ms M) :
    W p l e (am_rm (d + 1) M) s m args below meth c H locs cn un (am_MQ below (am_Qc G cl xn D cA b0 b L xs oM hM) args s (am_mc M) (am_ms M) (fun q => b ≤ q)) (F0 m pc ls (st.map (am_tv b0 b))) := by
  obtain ⟨hx, hb, hml, hown, hts, hr, hlk, hnm, htab⟩ := id hF
  obtain ⟨wgood, wf1, wf3, wf4, wac, war, wkc, wkl, wv0, wv3, ws1, ws4, wi2, wo7, wc8, wm10, wm11, whs, wx5⟩ := id hWF
  cases ins with
  | iload_n i =>
    obtain ⟨rfl, hh⟩ := hh
    obtain ⟨x, h1, h2⟩ := am_vi_s hh
    exact lv_iload_n hx hb hd rfl (am_lk_at hl h1) (hk _ _ _ _ _ _ _ _ _ h2 hX hS hl hc hu)
  | iload i =>
    obtain ⟨rfl, hh⟩ := hh
    obtain ⟨x, h1, h2⟩ := am_vi_s hh
    exact lv_iload hx hb hd (am_lk_at hl h1) (hk _ _ _ _ _ _ _ _ _ h2 hX hS hl hc hu)
  | lload_n i =>
    obtain ⟨rfl, hh⟩ := hh
    obtain ⟨x, h1, h2⟩ := am_vl_s hh
    exact lv_lload_n hx hb hd rfl (am_lk_at hl h1) (hk _ _ _ _ _ _ _ _ _ h2 hX hS hl hc hu)
  | lload i =>
    obtain ⟨rfl, hh⟩ := hh
    obtain ⟨x, h1, h2⟩ := am_vl_s hh
    exact lv_lload hx hb hd (am_lk_at hl h1) (hk _ _ _ _ _ _ _ _ _ h2 hX hS hl hc hu)
  | aload_n i =>
    obtain ⟨rfl, hh⟩ := hh
    obtain ⟨x, h1, h2⟩ := am_vr_s hh
    exact lv_aload_n hx hb hd rfl (am_lk_at hl h1) (hk _ _ _ _ _ _ _ _ _ h2 hX hS hl hc hu)
  | aload i =>
    obtain ⟨rfl, hh⟩ := hh
    obtain ⟨x, h1, h2⟩ := am_vr_s hh
    exact lv_aload hx hb hd (am_lk_at hl h1) (hk _ _ _ _ _ _ _ _ _ h2 hX hS hl hc hu)
  | istore_n i =>
    obtain ⟨rfl, hi, hh⟩ := hh
    obtain ⟨x, r, rfl, h2⟩ := am_sti_s hh
    exact lv_istore_n (lv' := am_tl b0 b (am_s1 al i (.int x))) hx hb hd rfl hl hi (by rw [am_tl_filter]; rfl) (fun ls' hl' => hk _ _ _ _ _ _ _ _ _ h2 hX hS hl' hc hu)
  | istore i =>
    obtain ⟨rfl, hi, hh⟩ := hh
    obtain ⟨x, r, rfl, h2⟩ := am_sti_s hh
    exact lv_istore (lv' := am_tl b0 b (am_s1 al i (.int x))) hx hb hd hl hi (by rw [am_tl_filter]; rfl) (fun ls' hl' => hk _ _ _ _ _ _ _ _ _ h2 hX hS hl' hc hu)
  | astore_n i =>
    obtain ⟨rfl, hi, hh⟩ := hh
    obtain ⟨x, r, rfl, h2⟩ := am_str_s hh
    exact lv_astore_n (lv' := am_tl b0 b (am_s1 al i (.ref x))) hx hb hd rfl hl hi (by rw [am_tl_filter]; rfl) (fun ls' hl' => hk _ _ _ _ _ _ _ _ _ h2 hX hS hl' hc hu)
  | astore i =>
    obtain ⟨rfl, hi, hh⟩ := hh
    obtain ⟨x, r, rfl, h2⟩ := am_str_s hh
    exact lv_astore (lv' := am_tl b0 b (am_s1 al i (.ref x))) hx hb hd hl hi (by rw [am_tl_filter]; rfl) (fun ls' hl' => hk _ _ _ _ _ _ _ _ _ h2 hX hS hl' hc hu)
  | iinc i n =>
    obtain ⟨rfl, hi, hh⟩ := hh
    obtain ⟨x, h1, h2⟩ := am_vi_s hh
    obtain ⟨k9, hk9⟩ := List.getElem?_of_mem (show (i, Value.int x) ∈ am_tl b0 b al from List.mem_map.mpr ⟨(i, .int x), am_lk_mem h1, rfl⟩)
    exact lv_iinc (lv' := am_tl b0 b (am_s1 al i (.int (x + Int32.ofInt n)))) hx hb hd hl hk9 rfl hi (by rw [am_tl_filter]; rfl) (fun ls' hl' => hk _ _ _ _ _ _ _ _ _ h2 hX hS hl' hc hu)
  | irem =>
    obtain ⟨rfl, hh⟩ := hh
    split at hh
    · rename_i y x r
      obtain ⟨hne, hh⟩ := hh
      exact lv_irem hx hb hd hne (hk _ _ _ _ _ _ _ _ _ hh hX hS hl hc hu)
    · exact hh.elim
  | ldc i =>
    obtain ⟨rfl, hh⟩ := hh
    obtain ⟨x, h1, h2⟩ := am_vi_s hh
    exact lv_ldc hx hb hown (hts _ (wkc _ _ _ h1)) hd (hk _ _ _ _ _ _ _ _ _ h2 hX hS hl hc hu)
  | ldc_w i =>
    obtain ⟨rfl, hh⟩ := hh
    obtain ⟨x, h1, h2⟩ := am_vi_s hh
    exact lv_ldcw hx hb hown (hts _ (wkc _ _ _ h1)) hd (hk _ _ _ _ _ _ _ _ _ h2 hX hS hl hc hu)
  | ldc2_w i =>
    obtain ⟨rfl, hh⟩ := hh
    obtain ⟨x, h1, h2⟩ := am_vl_s hh
    exact lv_ldc2 hx hb hown (hts _ (wkl _ _ _ h1)) hd (hk _ _ _ _ _ _ _ _ _ h2 hX hS hl hc hu)
  | getfield i =>
    obtain ⟨rfl, hh⟩ := hh
    obtain ⟨a, r, rfl, hh⟩ := am_str_s hh
    unfold am_get at hh
    split at hh
    · rename_i ci fi hpl
      obtain ⟨h1, h2, hh⟩ := hh
      by_cases h9 : am_ft G ci fi % 10 = 2
      · rw [if_pos h9] at hh
        obtain ⟨j, hj, hh⟩ := am_so_s hh
        exact am_r_get hx hb hts hown hY (wf1 _ _ _ _ hpl) hX hpl h1 h2 hd (v := .ref (am_ad b0 b j)) (by rw [if_pos h9, hj]; rfl) (hk _ _ _ _ _ _ _ _ _ hh hX hS hl hc hu)
      · rw [if_neg h9] at hh
        exact am_r_get hx hb hts hown hY (wf1 _ _ _ _ hpl) hX hpl h1 h2 hd (v := .int (am_I h a fi)) (by rw [if_neg h9]) (hk _ _ _ _ _ _ _ _ _ hh hX hS hl hc hu)
    · exact hh.elim
  | putfield i =>
    obtain ⟨rfl, hh⟩ := hh
    obtain ⟨v, a, r, rfl, hh9⟩ := am_stv_s hh
    clear hh
    have hh := hh9
    clear hh9
    unfold am_put at hh
    split at hh
    · rename_i ci fi hpl
      obtain ⟨h1, h2, h3, hh⟩ := hh
      have hok := wf1 _ _ _ _ hpl
      have hlt : ci < 100 := by
        obtain ⟨T, ty, -, q, -⟩ := hok
        exact q
      obtain ⟨h0, hn, -⟩ := am_obj_at hX h1 (by omega)
      have hf : am_ft G ci fi < 10 ∨ (meth.name = "<init>" ∧ own (am_o M) = own ci) := by
        rcases h3 with h3 | ⟨h3, h4⟩
        · exact Or.inl h3
        · exact Or.inr ⟨hnm.trans h3, by rw [h4]⟩
      split at hh
      · rename_i x
        obtain ⟨h4, hh⟩ := hh
        have h5 : ¬ am_ft G ci fi % 10 = 2 := by omega
        refine am_r_put hx hb hts hown hY hok hX hS hpl h1 h2 hf hd (v := .int x) ?_ (fun H1 locs1 g1 g2 g3 g4 => hk _ _ _ _ _ _ H1 locs1 ls hh (am_X_of hX h0 hn rfl rfl rfl (am_u2_ne _ _ _ (Ne.symm h0)) ?_ (fun y hy => am_ce_eq rfl rfl (am_u2_ne _ _ _ hy) rfl) g1 g2 g3) g4 hl hc hu)
        · rcases h4 with h4 | ⟨h4, h6 | h6⟩
          · exact Or.inl ⟨h4, x, rfl⟩
          · exact Or.inr (Or.inl ⟨h4, Or.inl (by rw [h6])⟩)
          · exact Or.inr (Or.inl ⟨h4, Or.inr (by rw [h6])⟩)
        · rw [am_ce_o (h := am_setI h (am_u2 (am_I h) a fi x)) h1 hlt]
          refine congrArg (fun z => Sum.inr (ci, z)) (am_rset (fun j hj => ?_) ?_).symm
          · show (if am_ft G ci j % 10 = 2 then _ else Value.int (am_u2 (am_I h) a fi x a j)) = _
            rw [am_u2_eq]
            simp [hj]
            rfl
          · show (if am_ft G ci fi % 10 = 2 then _ else Value.int (am_u2 (am_I h) a fi x a fi)) = _
            rw [if_neg h5, am_u2_eq]
            simp
      · rename_i j
        obtain ⟨h4, hh⟩ := hh
        refine am_r_put hx hb hts hown hY hok hX hS hpl h1 h2 hf hd (v := .ref (am_ad b0 b j)) (Or.inr (Or.inr ⟨h4, _, rfl⟩)) (fun H1 locs1 g1 g2 g3 g4 => hk _ _ _ _ _ _ H1 locs1 ls hh (am_X_of hX h0 hn rfl rfl rfl rfl ?_ (fun y hy => am_ce_eq rfl (am_u2_ne _ _ _ hy) rfl rfl) g1 g2 g3) g4 hl hc hu)
        rw [am_ce_o (h := am_setP h (am_u2 (am_P h) a fi (some j))) h1 hlt]
        refine congrArg (fun z => Sum.inr (ci, z)) (am_rset (fun y hy => ?_) ?_).symm
        · show (if am_ft G ci y % 10 = 2 then va_rf ((am_u2 (am_P h) a fi (some j) a y).map (am_ad b0 b)) else _) = _
          rw [am_u2_eq]
          simp [hy]
          rfl
        · show (if am_ft G ci fi % 10 = 2 then va_rf ((am_u2 (am_P h) a fi (some j) a fi).map (am_ad b0 b)) else _) = _
          rw [if_pos h4, am_u2_eq]
          simp [va_rf]
      · exact hh.elim
    · exact hh.elim
  | iaload =>
    obtain ⟨rfl, hh⟩ := hh
    obtain ⟨i, r1, rfl, hh2⟩ := am_sti_s hh
    obtain ⟨a, r, rfl, hh3⟩ := am_str_s hh2
    exact am_r_ald hx hb hY hX hS hh3 hd (fun v hv => hk _ _ _ _ _ _ _ _ _ hv hX hS hl hc hu)
  | baload =>
    obtain ⟨rfl, hh⟩ := hh
    obtain ⟨i, r1, rfl, hh2⟩ := am_sti_s hh
    obtain ⟨a, r, rfl, hh3⟩ := am_str_s hh2
    exact am_r_ald hx hb hY hX hS hh3 hd (fun v hv => hk _ _ _ _ _ _ _ _ _ hv hX hS hl hc hu)
  | laload =>
    obtain ⟨rfl, hh⟩ := hh
    obtain ⟨i, r1, rfl, hh2⟩ := am_sti_s hh
    obtain ⟨a, r, rfl, hh3⟩ := am_str_s hh2
    exact am_r_ald hx hb hY hX hS hh3 hd (fun v hv => hk _ _ _ _ _ _ _ _ _ hv hX hS hl hc hu)
  | aaload =>
    obtain ⟨rfl, hh⟩ := hh
    obtain ⟨i, r1, rfl, hh2⟩ := am_sti_s hh
    obtain ⟨a, r, rfl, hh3⟩ := am_str_s hh2
    exact am_r_ald hx hb hY hX hS hh3 hd (fun v hv => hk _ _ _ _ _ _ _ _ _ hv hX hS hl hc hu)
  | iastore =>
    obtain ⟨rfl, hh⟩ := hh
    cases st with
    | nil => exact hh.elim
    | cons v r =>
      obtain ⟨i, r1, rfl, hh2⟩ := am_sti_s hh
      obtain ⟨a, r, rfl, hh3⟩ := am_str_s hh2
      exact am_r_ast hx hb hY wac hX hS hh3 hd (fun h' H1 locs1 hv hX1 hS1 => hk _ _ _ _ _ _ H1 locs1 ls hv hX1 hS1 hl hc hu)
  | bastore =>
    obtain ⟨rfl, hh⟩ := hh
    cases st with
    | nil => exact hh.elim
    | cons v r =>
      obtain ⟨i, r1, rfl, hh2⟩ := am_sti_s hh
      obtain ⟨a, r, rfl, hh3⟩ := am_str_s hh2
      exact am_r_ast hx hb hY wac hX hS hh3 hd (fun h' H1 locs1 hv hX1 hS1 => hk _ _ _ _ _ _ H1 locs1 ls hv hX1 hS1 hl hc hu)
  | lastore =>
    obtain ⟨rfl, hh⟩ := hh
    cases st with
    | nil => exact hh.elim
    | cons v r =>
      obtain ⟨i, r1, rfl, hh2⟩ := am_sti_s hh
      obtain ⟨a, r, rfl, hh3⟩ := am_str_s hh2
      exact am_r_ast hx hb hY wac hX hS hh3 hd (fun h' H1 locs1 hv hX1 hS1 => hk _ _ _ _ _ _ H1 locs1 ls hv hX1 hS1 hl hc hu)
  | aastore =>
    obtain ⟨rfl, hh⟩ := hh
    cases st with
    | nil => exact hh.elim
    | cons v r =>
      obtain ⟨i, r1, rfl, hh2⟩ := am_sti_s hh
      obtain ⟨a, r, rfl, hh3⟩ := am_str_s hh2
      exact am_r_ast hx hb hY wac hX hS hh3 hd (fun h' H1 locs1 hv hX1 hS1 => hk _ _ _ _ _ _ H1 locs1 ls hv hX1 hS1 hl hc hu)
  | arraylength =>
    obtain ⟨rfl, hh⟩ := hh
    obtain ⟨a, r, rfl, hh⟩ := am_str_s hh
    obtain ⟨q, hq, h1, hh⟩ := am_so_s hh
    exact am_r_len hx hb hY hX hS hq h1 hd (hk _ _ _ _ _ _ _ _ _ hh hX hS hl hc hu)
  | new i =>
    obtain ⟨rfl, hh⟩ := hh
    split at hh
    · rename_i ci z1 z2 hpl
      obtain ⟨hg, hcn, hun, hlt, hh⟩ := hh
      obtain ⟨w1, w2, w3, w4⟩ := wf3 _ _ _ _ _ hpl
      exact am_r_new hx hb hts hown hY w1 hX hS w2 w3 w4 hg hcn hun hd (fun H1 hX1 hS1 => hk _ _ _ _ _ _ H1 locs ls hh hX1 hS1 hl hcn hun)
    · rename_i x ic z1 hpl
      obtain ⟨hs0, hcn, hun, hw8, hd3, hd4, hd7, rfl, rfl⟩ := hh
      obtain ⟨hx4, w1, w2, w3, w4⟩ := wx5 _ _ _ _ _ hpl
      exact am_thr_new htr hx hb hml hown (fun U hU hW => ⟨wgood _ w1 _ _ _ _ hW (hts _ w1), wgood _ w2 _ _ _ _ hW (hts _ w2), fun w hw => by
        rcases w4 w hw with h9 | h9
        · exact wgood _ h9 _ _ _ _ hW (hts _ h9)
        · exact hZ2 U (hZm s U hZ hW.alike (fun q g1 g2 => by rw [hU]; exact hS.2.1 q g1 g2)) args w h9⟩) w3 hd hd3 hd4 hd7 (by rw [htab, hs0]) hlk hcn hun (hlv x rfl) (by show am_w8 st + 81 ≤ 40 * (d + 1); have := hlv x rfl; omega) hl.1 hX hS
    · exact hh.elim
  | newarray ty =>
    obtain ⟨rfl, hh⟩ := hh
    obtain ⟨n, r, rfl, hh⟩ := am_sti_s hh
    cases ty with
    | int =>
      obtain ⟨h1, h2, hg, hcn, hun, hh⟩ := hh
      exact am_r_newa hx hb hts hY hX hS (Or.inl ⟨rfl, rfl⟩) war.1 h1 h2 hg hcn hun hd (fun H1 hX1 hS1 => hk _ _ _ _ _ _ H1 locs ls hh hX1 hS1 hl hcn hun)
    | boolean =>
      obtain ⟨h1, h2, hg, hcn, hun, hh⟩ := hh
      exact am_r_newa hx hb hts hY hX hS (Or.inr (Or.inl ⟨rfl, rfl⟩)) war.2.1 h1 h2 hg hcn hun hd (fun H1 hX1 hS1 => hk _ _ _ _ _ _ H1 locs ls hh hX1 hS1 hl hcn hun)
    | long =>
      obtain ⟨h1, h2, hg, hcn, hun, hh⟩ := hh
      exact am_r_newa hx hb hts hY hX hS (Or.inr (Or.inr ⟨rfl, rfl⟩)) war.2.2 h1 h2 hg hcn hun hd (fun H1 hX1 hS1 => hk _ _ _ _ _ _ H1 locs ls hh hX1 hS1 hl hcn hun)
    | _ => exact hh.elim
  | anewarray i =>
    obtain ⟨rfl, hh⟩ := hh
    obtain ⟨n, r, rfl, hh⟩ := am_sti_s hh
    split at hh
    · rename_i z1 t z2 hpl
      obtain ⟨ht, h1, h2, hg, hcn, hun, hh⟩ := hh
      obtain ⟨w1, w2⟩ := wf4 _ _ _ _ _ hpl ht
      exact am_r_anew hx hb hts hown hY hX hS ht w1 w2 h1 h2 hg hcn hun hd (fun H1 hX1 hS1 => hk _ _ _ _ _ _ H1 locs ls hh hX1 hS1 hl hcn hun)
    · exact hh.elim
  | invokestatic i =>
    obtain ⟨rfl, hh⟩ := hh
    split at hh
    · rename_i j z1 hpl
      obtain ⟨hnp, hh⟩ := hh
      obtain ⟨hok, w1, w2⟩ := ws1 _ _ _ _ hpl
      obtain ⟨mk, methM, cM, hn, hm, -, -, hsig⟩ := am_named (hts _ hok.2.2.2.2.2.2)
      have hgo := am_goS (p := p) (l := l) (e := e) (R := am_rm (d + 1) M) (below := below) (meth := meth) (H := H) (locs := locs) (cells := cn) (slots := un) hx hown (hts _ w1) (hts _ w2) (hts _ hok.2.2.2.2.2.1) hok.2.2.1 hn hm (g := F0 m pc ls (st.map (am_tv b0 b))) rfl ((am_len9 (am_tv b0 b) hnp).trans (am_np9 hok hsig).symm) (am_split (am_tv b0 b) st _) (by rw [hb]; exact hd)
      exact am_snd_inv hZ3 hWF hZm hMj hC hF hY hZ hk hok hh hn hd hgo hX hS hl
    · rename_i j z1 hpl
      obtain ⟨hnp, hh⟩ := hh
      obtain ⟨hok, w1, w2⟩ := ws4 _ _ _ _ hpl
      obtain ⟨mk, methM, cM, hn, hm, -, -, hsig⟩ := am_named (hts _ hok.2.2.2.2.2.2)
      have hgo := am_goSN (p := p) (l := l) (e := e) (R := am_rm (d + 1) M) (below := below) (meth := meth) (H := H) (locs := locs) (cells := cn) (slots := un) hx hown (hts _ w1) (hts _ w2) (hts _ hok.2.2.2.2.2.1) hok.2.2.1 hn hm (g := F0 m pc ls (st.map (am_tv b0 b))) rfl ((am_len9 (am_tv b0 b) hnp).trans (am_np9 hok hsig).symm) (am_split (am_tv b0 b) st _) (by rw [hb]; exact hd)
      exact am_snd_inv hZ3 hWF hZm hMj hC hF hY hZ hk hok hh hn hd hgo hX hS hl
    · rename_i z1 z2 z3 hpl
      obtain ⟨w1, w2, w3, w4⟩ := wc8 _ _ _ _ _ hpl
      exact am_r_cpy hx hb (by rw [hml]; exact hl.1.symm) hts hown hY hX hS w1 w2 w3 w4 (by show 1 ≤ d + 1; omega) (by show 8 + (nativeFrameWords "java/lang/System" "arraycopy" 5 + 11) ≤ 40 * (d + 1); have h99 : nativeFrameWords "java/lang/System" "arraycopy" 5 ≤ 21 := (by decide); omega) hh hd (fun h' r H1 locs1 hv hX1 hS1 => hk _ _ _ _ _ _ H1 locs1 ls hv hX1 hS1 hl hc hu)
    · rename_i z1 z2 z3 hpl
      obtain ⟨w1, w2, w3, w4⟩ := wm10 _ _ _ _ _ hpl
      obtain ⟨y, r1, rfl, hh2⟩ := am_sti_s hh
      obtain ⟨x, r, rfl, h8, hh3⟩ := am_sti_s hh2
      exact va_mmin hx hb (by rw [hml]; exact hl.1.symm) hown (hts _ w1) (hts _ w2) (hts _ w3) (hts _ w4) (by show 1 ≤ d + 1; omega) (by rw [am_w8_map]; show am_w8 r + 13 ≤ 40 * (d + 1); omega) hc hu hd (hk _ _ _ _ _ _ _ _ _ hh3 hX hS hl hc hu)
    · rename_i z1 z2 z3 hpl
      obtain ⟨w1, w2, w3, w4⟩ := wm11 _ _ _ _ _ hpl
      obtain ⟨y, r1, rfl, hh2⟩ := am_sti_s hh
      obtain ⟨x, r, rfl, h8, hh3⟩ := am_sti_s hh2
      exact va_mmax hx hb (by rw [hml]; exact hl.1.symm) hown (hts _ w1) (hts _ w2) (hts _ w3) (hts _ w4) (by show 1 ≤ d + 1; omega) (by rw [am_w8_map]; show am_w8 r + 13 ≤ 40 * (d + 1); omega) hc hu hd (hk _ _ _ _ _ _ _ _ _ hh3 hX hS hl hc hu)
    · exact hh.elim
  | invokevirtual i =>
    obtain ⟨rfl, hh⟩ := hh
    split at hh
    · rename_i j z1 hpl
      obtain ⟨hnp, hh⟩ := hh
      obtain ⟨hok, -, ⟨T9, w0⟩, wlt, w1, w2, w3⟩ := wv0 _ _ _ _ hpl
      obtain ⟨bb, r, hdr, hs, hh⟩ := am_str_s hh
      obtain ⟨mk, methM, cM, hn, hm, -, -, hsig⟩ := am_named (hts _ hok.2.2.2.2.2.2)
      obtain ⟨cellB, k1, k2, k3⟩ := am_recv9 hY hX w0 wlt hs
      have hst := am_split (am_tv b0 b) st (am_np (am_mt G j))
      rw [hdr] at hst
      have hgo := am_goV (p := p) (l := l) (e := e) (R := am_rm (d + 1) M) (below := below) (meth := meth) (H := H) (locs := locs) (cells := cn) (slots := un) hx hown (hts _ w1) (hts _ w2) (hts _ w3) hok.2.2.1 hn hm k1 k2 (by rw [hok.2.1]; exact k3) (g := F0 m pc ls (st.map (am_tv b0 b))) rfl ((am_len9 (am_tv b0 b) hnp).trans (am_np9 hok hsig).symm) (rest := r.map (am_tv b0 b)) hst (by rw [hb]; exact hd)
      exact am_snd_inv hZ3 hWF hZm hMj hC hF hY hZ hk hok hh hn hd hgo hX hS hl
    · rename_i j z1 hpl
      obtain ⟨hnp, hh⟩ := hh
      obtain ⟨hok, -, ⟨T9, w0⟩, wlt, w1, w2, w3⟩ := wv3 _ _ _ _ hpl
      obtain ⟨bb, r, hdr, hs, hh⟩ := am_str_s hh
      obtain ⟨mk, methM, cM, hn, hm, -, -, hsig⟩ := am_named (hts _ hok.2.2.2.2.2.2)
      obtain ⟨cellB, k1, k2, k3⟩ := am_recv9 hY hX w0 wlt hs
      have hst := am_split (am_tv b0 b) st (am_np (am_mt G j))
      rw [hdr] at hst
      have hgo := am_goVN (p := p) (l := l) (e := e) (R := am_rm (d + 1) M) (below := below) (meth := meth) (H := H) (locs := locs) (cells := cn) (slots := un) hx hown (hts _ w1) (hts _ w2) (hts _ w3) hok.2.2.1 hn hm k1 k2 (by rw [hok.2.1]; exact k3) (g := F0 m pc ls (st.map (am_tv b0 b))) rfl ((am_len9 (am_tv b0 b) hnp).trans (am_np9 hok hsig).symm) (rest := r.map (am_tv b0 b)) hst (by rw [hb]; exact hd)
      exact am_snd_inv hZ3 hWF hZm hMj hC hF hY hZ hk hok hh hn hd hgo hX hS hl
    · exact hh.elim
  | invokespecial i =>
    obtain ⟨rfl, hh⟩ := hh
    split at hh
    · rename_i j z1 hpl
      obtain ⟨hnp, hh⟩ := hh
      obtain ⟨hok, whs, wrt, wnm, w1, w2⟩ := wi2 _ _ _ _ hpl
      obtain ⟨bb, r, hdr, hh⟩ := am_str_s hh
      obtain ⟨mk, methM, cM, hn, hm, -, -, hsig⟩ := am_named (hts _ hok.2.2.2.2.2.2)
      have hst := am_split (am_tv b0 b) st (am_np (am_mt G j))
      rw [hdr] at hst
      have hcode : (Cond.code (am_y (am_mt G j)) (am_b (am_mt G j)) (am_mL (am_mt G j)) none).before args s = true := by
        have := hts _ hok.2.2.2.2.2.2
        unfold am_cw at this
        rw [whs, wrt] at this
        exact this
      have hgo := am_goI (p := p) (l := l) (e := e) (R := am_rm (d + 1) M) (below := below) (meth := meth) (H := H) (locs := locs) (cells := cn) (slots := un) hx hown wnm (hts _ w1) (hts _ w2) hcode hok.2.2.1 hn (b := am_ad b0 b bb) (g := F0 m pc ls (st.map (am_tv b0 b))) rfl (argsL := ((st.take (am_np (am_mt G j))).reverse.map (am_tv b0 b))) (rest := r.map (am_tv b0 b)) (fun sig h9 => (am_len9 (am_tv b0 b) hnp).trans (am_np9 hok h9).symm) hst (by rw [hb]; exact hd)
      exact am_snd_inv hZ3 hWF hZm hMj hC hF hY hZ hk hok hh hn hd hgo hX hS hl
    · rename_i z1 z2 z3 hpl
      obtain ⟨w1, w2, w3⟩ := wo7 _ _ _ _ _ hpl
      obtain ⟨a, r, rfl, h8, hh⟩ := am_str_s hh
      exact W.objInit hx hb hown (hts _ w1) (hts _ w2) (hts _ w3) rfl (by rw [hml]; exact hl.1) rfl hd (by show 1 ≤ d + 1; omega) (by show 2 * 0 + _ + 12 ≤ 40 * (d + 1); rw [am_w8_map]; omega) (hk _ _ _ _ _ _ _ _ _ hh hX hS hl hc hu)
    · exact hh.elim
  | ireturn =>
    obtain ⟨rfl, hh⟩ := hh
    split at hh
    · rename_i x
      split at hh
      · rename_i hrt
        obtain ⟨rfl, rfl⟩ := hh
        refine W.widen hc hu (am_mono (fun t => am_MQ_of) (W.zret hx hb (hr.trans hrt) rfl (fun t ht hW => ⟨rfl, by rw [ht]; exact hX, hS.F ht⟩) hS.2.2 hd hlk))
      · rename_i hrt
        obtain ⟨h01, rfl, rfl⟩ := hh
        refine W.widen hc hu (am_mono (fun t => am_MQ_of) (W.zret hx hb (hr.trans hrt) (by rcases h01 with h01 | h01 <;> rw [h01] <;> rfl) (fun t ht hW => ⟨rfl, by rw [ht]; exact hX, hS.F ht⟩) hS.2.2 hd hlk))
      · exact hh.elim
    · exact hh.elim
  | areturn =>
    obtain ⟨rfl, hh⟩ := hh
    split at hh
    · rename_i a
      split at hh
      · rename_i nm hrt
        obtain ⟨rfl, rfl⟩ := hh
        refine W.widen hc hu (am_mono (fun t => am_MQ_of) (W.aret hx hb (hr.trans hrt) (Or.inl ⟨_, rfl⟩) (Or.inr ⟨_, rfl⟩) (fun t ht hW => ⟨rfl, by rw [ht]; exact hX, hS.F ht⟩) hS.2.2 hd hlk))
      · exact hh.elim
    · exact hh.elim
  | return_ =>
    obtain ⟨rfl, hh⟩ := hh
    split at hh
    · obtain ⟨hrt, rfl, rfl⟩ := hh
      refine W.widen hc hu (am_mono (fun t => am_MQ_of) (W.vret hx hb (hr.trans hrt) (fun t ht hW => ⟨rfl, by rw [ht]; exact hX, hS.F ht⟩) hS.2.2 hd hlk))
    · exact hh.elim
  | _ =>
    rw [am_do_d rfl] at hh
    exact am_snd_dflt hF hk hd hh hX hS hl hc hu
end AMS2
end
section
/-! Part 27: every method meets what the machine says of it -/
theorem am_sl_len : ∀ vs : List Value, (lg_sl vs).length = am_w8 vs
  | [] => rfl
  | v :: vs => by
    have h := am_sl_len vs
    have e1 : lg_sl (v :: vs) = (if v.category = 2 then [Slot.val v, Slot.second] else [Slot.val v]) ++ lg_sl vs := rfl
    have e2 : am_w8 (v :: vs) = v.category + am_w8 vs := by simp [am_w8]
    rw [e1, e2, List.length_append, h]
    cases v <;> rfl
section AMA
variable {l : Launch} {G : am_G} {cl : List vw_C} {own xn : Nat → String} {host : String} {WS : List Cond} {D : va_G} {cA : Nat → ClassId} {b0 b L : Nat} {xs : Nat → Int32} {Z : State → Prop}
theorem am_snd (hZ3 : ∀ s : State, Z s → ∀ x y, x < 4 → y < 4 → x ≠ y → va_Nc (xn x) (xn y) s) {p : Program} {e : Env} {s : State} {m : MethodId} {args : Array Value} {below : List Frame} {meth : Method} {c : Code} {M : am_M} {d : Nat} {C : Nat → List Value → am_H → am_O → am_H → Prop} {oM : am_O} {hM : am_H} (hWF : am_WF G cl own xn host WS) (hZm : ∀ (s U : State), Z s → s.vm.Alike U.vm → (∀ q : Nat, q < s.heap.size → ¬ b ≤ q → U.heap[q]? = s.heap[q]?) → Z U)
    (hlv : ∀ x, oM = .inr x → 5 < d + 1) (hMj : ∃ jM, M = am_mt G jM) (htr : l.stackTraces = false) (hZ2 : ∀ s : State, Z s → ∀ a9 : Array Value, ∀ w ∈ am_zw, w.before a9 s = true) (hC : am_HC C l G cl own xn WS D cA b0 b L d xs Z) (hF : am_F own WS M p m args meth c s) (hY : am_Y G cl own D cA b0 b L xs s) (hZ : Z s) :
    am_K (am_T C G M (fun o1 h1 => o1 = oM ∧ h1 = hM)) G cl D cA b0 b L xs M p l e (am_rm (d + 1) M) s m args below meth c (am_MQ below (am_Qc G cl xn D cA b0 b L xs oM hM) args s (am_mc M) (am_ms M) (fun q => b ≤ q)) := by
  intro pc al st h cn un H locs ls hh
  revert H locs ls
  refine hh (fun pc al st h cn un => ∀ (H : Heap) (locs : List Loc) (ls : Array Slot), am_X G cl D cA b0 b L xs h H → va_S (fun q => b ≤ q) s.heap H locs → lv_has ls (am_mL M) (am_tl b0 b al) → cn ≤ am_mc M → un ≤ am_ms M →
    W p l e (am_rm (d + 1) M) s m args below meth c H locs cn un (am_MQ below (am_Qc G cl xn D cA b0 b L xs oM hM) args s (am_mc M) (am_ms M) (fun q => b ≤ q)) (F0 m pc ls (st.map (am_tv b0 b)))) ?_
  intro pc al st h cn un hh H locs ls hX hS hl hc hu
  unfold am_step at hh
  split at hh
  · rename_i q hd
    exact am_snd_do hZ3 hlv htr hZ2 hWF hZm hMj hC hF hY hZ (fun pc al st h cn un H locs ls hh => hh H locs ls) (ins := q.1) (len := q.2) hd hh hX hS hl hc hu
  · exact hh.elim
theorem am_all (hZ3 : ∀ s : State, Z s → ∀ x y, x < 4 → y < 4 → x ≠ y → va_Nc (xn x) (xn y) s) (htr : l.stackTraces = false) (hZ2 : ∀ s : State, Z s → ∀ a9 : Array Value, ∀ w ∈ am_zw, w.before a9 s = true) (hWF : am_WF G cl own xn host WS) (hZm : ∀ (s U : State), Z s → s.vm.Alike U.vm → (∀ q : Nat, q < s.heap.size → ¬ b ≤ q → U.heap[q]? = s.heap[q]?) → Z U) : ∀ d, am_HC (am_C G d) l G cl own xn WS D cA b0 b L d xs Z := by
  intro d
  induction d with
  | zero => exact fun _ _ _ _ _ hh => hh.elim
  | succ d ih =>
    intro j as h o h' hCj hok
    obtain ⟨hw8, hlv, hwp⟩ := hCj
    have body : ∀ p e s m args below meth c s₁, BodyLoose p l (am_y (am_mt G j)) (headSpec (am_cw (am_mt G j) :: WS) (am_rm (d + 1) (am_mt G j))) (am_b (am_mt G j)) (am_mL (am_mt G j)) (am_rt (am_mt G j)) e s m args below meth c s₁ → c.maxLocals = am_mL (am_mt G j) → am_Pc G cl own D cA b0 b L xs Z as h args s →
        W p l e (headSpec (am_cw (am_mt G j) :: WS) (am_rm (d + 1) (am_mt G j))).room s m args below meth c s.heap [] 0 0 (am_MQ below (am_Qc G cl xn D cA b0 b L xs o h') args s (am_mc (am_mt G j)) (am_ms (am_mt G j)) (fun q => b ≤ q)) (entryFrame m args (am_mL (am_mt G j))) := by
      intro p e s m args below meth c s₁ B hml hP
      obtain ⟨rfl, hX, hY, hZ⟩ := hP
      have hts := atoms_spec (ws := am_cw (am_mt G j) :: WS) B.pre
      have hF : am_F own WS (am_mt G j) p m (as.map (am_tv b0 b)).toArray meth c s := ⟨B.exec, B.bytes, hml, by rw [← hok.2.1]; exact findClass_of_methodNamed B.named, fun w hw => hts w (List.mem_cons_of_mem _ hw), B.returns, B.notSynchronized, (name_of_methodNamed B.named B.method).1, am_tab (hts _ List.mem_cons_self) B.named B.method (Stand.of_body B).code⟩
      have hl := lv_entry (as.map (am_tv b0 b)) (n := am_mL (am_mt G j)) (by rw [am_sl_len]; show ((as.map (am_tv b0 b)).map fun v => v.category).sum ≤ _; rw [am_w8_map]; exact hw8)
      rw [am_args_map] at hl
      rw [lg_entry_eq]
      exact am_snd hZ3 hWF hZm hlv ⟨j, rfl⟩ htr hZ2 ih hF hY hZ 0 (lv_args 0 as) [] h 0 0 s.heap [] _ hwp hX va_S.rf hl (Nat.zero_le _) (Nat.zero_le _)
    cases hs : am_hs (am_mt G j) with
    | nil => exact am_ofW hok.1 (by unfold am_cw; rw [hs]) body
    | cons q r => exact am_ofWh (hh := q :: r) hok.1 (by unfold am_cw; rw [hs]) body
end AMA
end
section
/-! Part 30 (written by gen3.py out of the Statement): the program as tables of the machine of part 10 -/
def tb_own (k : Nat) : String := match k with
  | 0 => "AttributeLink$Attribute"
  | 1 => "AttributeLink$Channels"
  | 2 => "AttributeLink$Client"
  | 3 => "AttributeLink$Device"
  | 4 => "AttributeLink$Inbox"
  | 5 => "AttributeLink$Notes"
  | 6 => "AttributeLink$Outbox"
  | 7 => "AttributeLink$Row"
  | 8 => "AttributeLink$Server"
  | 9 => "AttributeLink$Whitening"
  | 10 => "AttributeLink"
  | 11 => "AttributeLinkModel"
  | 12 => "AttributeLinkLaw"
  | 13 => "java/lang/Math"
  | 14 => "java/lang/Integer"
  | _ => ""
def tb_xn (k : Nat) : String := match k with
  | 0 => "java/lang/IllegalArgumentException"
  | 1 => "java/lang/IllegalStateException"
  | 2 => "java/util/NoSuchElementException"
  | 3 => "java/lang/IndexOutOfBoundsException"
  | _ => ""
def tb_T0 : u_T := fun k => match k with
  | 0 => ("AttributeLink$Attribute", "bytes", "LAttributeLink$Row;", true)
  | 1 => ("AttributeLink$Attribute", "type", "I", false)
  | _ => ("AttributeLink$Attribute", "permissions", "I", false)
def tb_ty0 : Nat → FieldType := fun k => match k with
  | 0 => .object "AttributeLink$Row"
  | 1 => .int
  | _ => .int
def tb_T1 : u_T := fun k => match k with
  | 0 => ("AttributeLink$Channels", "hop", "I", true)
  | 1 => ("AttributeLink$Channels", "usedOnes", "[I", true)
  | 2 => ("AttributeLink$Channels", "isUsed", "[Z", true)
  | 3 => ("AttributeLink$Channels", "usedCount", "I", false)
  | _ => ("AttributeLink$Channels", "step", "I", false)
def tb_ty1 : Nat → FieldType := fun k => match k with
  | 0 => .int
  | 1 => .array .int
  | 2 => .array .boolean
  | 3 => .int
  | _ => .int
def tb_T2 : u_T := fun k => match k with
  | 0 => ("AttributeLink$Client", "notes", "LAttributeLink$Notes;", true)
  | 1 => ("AttributeLink$Client", "found", "LAttributeLink$Row;", true)
  | 2 => ("AttributeLink$Client", "request", "LAttributeLink$Row;", true)
  | 3 => ("AttributeLink$Client", "confirmation", "LAttributeLink$Row;", true)
  | 4 => ("AttributeLink$Client", "text", "LAttributeLink$Row;", true)
  | 5 => ("AttributeLink$Client", "limit", "I", false)
  | 6 => ("AttributeLink$Client", "operation", "I", false)
  | 7 => ("AttributeLink$Client", "subject", "I", false)
  | 8 => ("AttributeLink$Client", "state", "I", false)
  | 9 => ("AttributeLink$Client", "failure", "I", false)
  | 10 => ("AttributeLink$Client", "waited", "I", false)
  | 11 => ("AttributeLink$Client", "place", "I", false)
  | _ => ("AttributeLink$Client", "takesBack", "Z", false)
def tb_ty2 : Nat → FieldType := fun k => match k with
  | 0 => .object "AttributeLink$Notes"
  | 1 => .object "AttributeLink$Row"
  | 2 => .object "AttributeLink$Row"
  | 3 => .object "AttributeLink$Row"
  | 4 => .object "AttributeLink$Row"
  | 5 => .int
  | 6 => .int
  | 7 => .int
  | 8 => .int
  | 9 => .int
  | 10 => .int
  | 11 => .int
  | _ => .boolean
def tb_T3 : u_T := fun k => match k with
  | 0 => ("AttributeLink$Device", "outbox", "LAttributeLink$Outbox;", true)
  | 1 => ("AttributeLink$Device", "inbox", "LAttributeLink$Inbox;", true)
  | 2 => ("AttributeLink$Device", "sent", "LAttributeLink$Row;", true)
  | 3 => ("AttributeLink$Device", "packet", "LAttributeLink$Row;", true)
  | 4 => ("AttributeLink$Device", "hand", "LAttributeLink$Row;", true)
  | 5 => ("AttributeLink$Device", "handKind", "I", false)
  | 6 => ("AttributeLink$Device", "holdsPiece", "Z", false)
  | 7 => ("AttributeLink$Device", "turn", "I", false)
  | 8 => ("AttributeLink$Device", "next", "I", false)
  | _ => ("AttributeLink$Device", "misses", "I", false)
def tb_ty3 : Nat → FieldType := fun k => match k with
  | 0 => .object "AttributeLink$Outbox"
  | 1 => .object "AttributeLink$Inbox"
  | 2 => .object "AttributeLink$Row"
  | 3 => .object "AttributeLink$Row"
  | 4 => .object "AttributeLink$Row"
  | 5 => .int
  | 6 => .boolean
  | 7 => .int
  | 8 => .int
  | _ => .int
def tb_T4 : u_T := fun k => match k with
  | 0 => ("AttributeLink$Inbox", "message", "LAttributeLink$Row;", true)
  | 1 => ("AttributeLink$Inbox", "row", "LAttributeLink$Row;", true)
  | 2 => ("AttributeLink$Inbox", "begun", "Z", false)
  | _ => ("AttributeLink$Inbox", "done", "Z", false)
def tb_ty4 : Nat → FieldType := fun k => match k with
  | 0 => .object "AttributeLink$Row"
  | 1 => .object "AttributeLink$Row"
  | 2 => .boolean
  | _ => .boolean
def tb_T5 : u_T := fun k => match k with
  | 0 => ("AttributeLink$Notes", "rows", "[LAttributeLink$Row;", true)
  | 1 => ("AttributeLink$Notes", "count", "I", false)
  | _ => ("AttributeLink$Notes", "newest", "I", false)
def tb_ty5 : Nat → FieldType := fun k => match k with
  | 0 => .array (.object "AttributeLink$Row")
  | 1 => .int
  | _ => .int
def tb_T6 : u_T := fun k => match k with
  | 0 => ("AttributeLink$Outbox", "rows", "[LAttributeLink$Row;", true)
  | 1 => ("AttributeLink$Outbox", "oldest", "I", false)
  | 2 => ("AttributeLink$Outbox", "waiting", "I", false)
  | _ => ("AttributeLink$Outbox", "taken", "I", false)
def tb_ty6 : Nat → FieldType := fun k => match k with
  | 0 => .array (.object "AttributeLink$Row")
  | 1 => .int
  | 2 => .int
  | _ => .int
def tb_T7 : u_T := fun k => match k with
  | 0 => ("AttributeLink$Row", "bytes", "[I", true)
  | _ => ("AttributeLink$Row", "length", "I", false)
def tb_ty7 : Nat → FieldType := fun k => match k with
  | 0 => .array .int
  | _ => .int
def tb_T8 : u_T := fun k => match k with
  | 0 => ("AttributeLink$Server", "attributes", "[LAttributeLink$Attribute;", true)
  | 1 => ("AttributeLink$Server", "count", "I", false)
  | 2 => ("AttributeLink$Server", "parts", "[LAttributeLink$Row;", true)
  | 3 => ("AttributeLink$Server", "partCount", "I", false)
  | 4 => ("AttributeLink$Server", "plannedLengths", "[I", true)
  | 5 => ("AttributeLink$Server", "answer", "LAttributeLink$Row;", true)
  | 6 => ("AttributeLink$Server", "limit", "I", false)
  | _ => ("AttributeLink$Server", "unconfirmed", "Z", false)
def tb_ty8 : Nat → FieldType := fun k => match k with
  | 0 => .array (.object "AttributeLink$Attribute")
  | 1 => .int
  | 2 => .array (.object "AttributeLink$Row")
  | 3 => .int
  | 4 => .array .int
  | 5 => .object "AttributeLink$Row"
  | 6 => .int
  | _ => .boolean
def tb_T9 : u_T := fun k => match k with
  | _ => ("AttributeLink$Whitening", "masks", "[I", true)
def tb_ty9 : Nat → FieldType := fun k => match k with
  | _ => .array .int
def tb_T10 : u_T := fun k => match k with
  | 0 => ("AttributeLink", "channels", "LAttributeLink$Channels;", true)
  | 1 => ("AttributeLink", "whitening", "LAttributeLink$Whitening;", true)
  | 2 => ("AttributeLink", "clientSide", "LAttributeLink$Device;", true)
  | 3 => ("AttributeLink", "serverSide", "LAttributeLink$Device;", true)
  | 4 => ("AttributeLink", "client", "LAttributeLink$Client;", true)
  | 5 => ("AttributeLink", "server", "LAttributeLink$Server;", true)
  | 6 => ("AttributeLink", "events", "I", false)
  | 7 => ("AttributeLink", "channel", "I", false)
  | _ => ("AttributeLink", "down", "Z", false)
def tb_ty10 : Nat → FieldType := fun k => match k with
  | 0 => .object "AttributeLink$Channels"
  | 1 => .object "AttributeLink$Whitening"
  | 2 => .object "AttributeLink$Device"
  | 3 => .object "AttributeLink$Device"
  | 4 => .object "AttributeLink$Client"
  | 5 => .object "AttributeLink$Server"
  | 6 => .int
  | 7 => .int
  | _ => .boolean
def tb_T11 : u_T := fun k => match k with
  | 0 => ("AttributeLinkModel", "thrown", "I", false)
  | 1 => ("AttributeLinkModel", "hop", "I", true)
  | 2 => ("AttributeLinkModel", "used", "[Z", true)
  | 3 => ("AttributeLinkModel", "usedOnes", "I", false)
  | 4 => ("AttributeLinkModel", "step", "I", false)
  | 5 => ("AttributeLinkModel", "channel", "I", false)
  | 6 => ("AttributeLinkModel", "events", "I", false)
  | 7 => ("AttributeLinkModel", "down", "Z", false)
  | 8 => ("AttributeLinkModel", "length", "I", false)
  | 9 => ("AttributeLinkModel", "packet", "[I", true)
  | 10 => ("AttributeLinkModel", "turn", "[I", true)
  | 11 => ("AttributeLinkModel", "next", "[I", true)
  | 12 => ("AttributeLinkModel", "misses", "[I", true)
  | 13 => ("AttributeLinkModel", "holding", "[Z", true)
  | 14 => ("AttributeLinkModel", "holdKind", "[I", true)
  | 15 => ("AttributeLinkModel", "holdSize", "[I", true)
  | 16 => ("AttributeLinkModel", "hold", "[I", true)
  | 17 => ("AttributeLinkModel", "rows", "[I", true)
  | 18 => ("AttributeLinkModel", "rowSize", "[I", true)
  | 19 => ("AttributeLinkModel", "front", "[I", true)
  | 20 => ("AttributeLinkModel", "waiting", "[I", true)
  | 21 => ("AttributeLinkModel", "cut", "[I", true)
  | 22 => ("AttributeLinkModel", "coming", "[I", true)
  | 23 => ("AttributeLinkModel", "came", "[I", true)
  | 24 => ("AttributeLinkModel", "begun", "[Z", true)
  | 25 => ("AttributeLinkModel", "air", "[I", true)
  | 26 => ("AttributeLinkModel", "airSize", "[I", true)
  | 27 => ("AttributeLinkModel", "size", "I", false)
  | 28 => ("AttributeLinkModel", "row", "[I", true)
  | 29 => ("AttributeLinkModel", "made", "I", false)
  | 30 => ("AttributeLinkModel", "making", "[I", true)
  | 31 => ("AttributeLinkModel", "attributes", "I", false)
  | 32 => ("AttributeLinkModel", "type", "[I", true)
  | 33 => ("AttributeLinkModel", "rights", "[I", true)
  | 34 => ("AttributeLinkModel", "valueSize", "[I", true)
  | 35 => ("AttributeLinkModel", "values", "[I", true)
  | 36 => ("AttributeLinkModel", "tried", "[I", true)
  | 37 => ("AttributeLinkModel", "serverLimit", "I", false)
  | 38 => ("AttributeLinkModel", "indicated", "Z", false)
  | 39 => ("AttributeLinkModel", "parts", "I", false)
  | 40 => ("AttributeLinkModel", "partHandle", "[I", true)
  | 41 => ("AttributeLinkModel", "partPlace", "[I", true)
  | 42 => ("AttributeLinkModel", "partSize", "[I", true)
  | 43 => ("AttributeLinkModel", "part", "[I", true)
  | 44 => ("AttributeLinkModel", "clientLimit", "I", false)
  | 45 => ("AttributeLinkModel", "operation", "I", false)
  | 46 => ("AttributeLinkModel", "about", "I", false)
  | 47 => ("AttributeLinkModel", "outcome", "I", false)
  | 48 => ("AttributeLinkModel", "code", "I", false)
  | 49 => ("AttributeLinkModel", "waited", "I", false)
  | 50 => ("AttributeLinkModel", "asked", "I", false)
  | 51 => ("AttributeLinkModel", "request", "[I", true)
  | 52 => ("AttributeLinkModel", "got", "I", false)
  | 53 => ("AttributeLinkModel", "data", "[I", true)
  | 54 => ("AttributeLinkModel", "writeSize", "I", false)
  | 55 => ("AttributeLinkModel", "writePlace", "I", false)
  | 56 => ("AttributeLinkModel", "writing", "[I", true)
  | 57 => ("AttributeLinkModel", "spoilt", "Z", false)
  | 58 => ("AttributeLinkModel", "finishing", "Z", false)
  | 59 => ("AttributeLinkModel", "notes", "I", false)
  | 60 => ("AttributeLinkModel", "noteSize", "[I", true)
  | _ => ("AttributeLinkModel", "note", "[I", true)
def tb_ty11 : Nat → FieldType := fun k => match k with
  | 0 => .int
  | 1 => .int
  | 2 => .array .boolean
  | 3 => .int
  | 4 => .int
  | 5 => .int
  | 6 => .int
  | 7 => .boolean
  | 8 => .int
  | 9 => .array .int
  | 10 => .array .int
  | 11 => .array .int
  | 12 => .array .int
  | 13 => .array .boolean
  | 14 => .array .int
  | 15 => .array .int
  | 16 => .array .int
  | 17 => .array .int
  | 18 => .array .int
  | 19 => .array .int
  | 20 => .array .int
  | 21 => .array .int
  | 22 => .array .int
  | 23 => .array .int
  | 24 => .array .boolean
  | 25 => .array .int
  | 26 => .array .int
  | 27 => .int
  | 28 => .array .int
  | 29 => .int
  | 30 => .array .int
  | 31 => .int
  | 32 => .array .int
  | 33 => .array .int
  | 34 => .array .int
  | 35 => .array .int
  | 36 => .array .int
  | 37 => .int
  | 38 => .boolean
  | 39 => .int
  | 40 => .array .int
  | 41 => .array .int
  | 42 => .array .int
  | 43 => .array .int
  | 44 => .int
  | 45 => .int
  | 46 => .int
  | 47 => .int
  | 48 => .int
  | 49 => .int
  | 50 => .int
  | 51 => .array .int
  | 52 => .int
  | 53 => .array .int
  | 54 => .int
  | 55 => .int
  | 56 => .array .int
  | 57 => .boolean
  | 58 => .boolean
  | 59 => .int
  | 60 => .array .int
  | _ => .array .int
def tb_T (ci : Nat) : u_T := match ci with
  | 0 => tb_T0
  | 1 => tb_T1
  | 2 => tb_T2
  | 3 => tb_T3
  | 4 => tb_T4
  | 5 => tb_T5
  | 6 => tb_T6
  | 7 => tb_T7
  | 8 => tb_T8
  | 9 => tb_T9
  | 10 => tb_T10
  | _ => tb_T11
def tb_ty (ci : Nat) : Nat → FieldType := match ci with
  | 0 => tb_ty0
  | 1 => tb_ty1
  | 2 => tb_ty2
  | 3 => tb_ty3
  | 4 => tb_ty4
  | 5 => tb_ty5
  | 6 => tb_ty6
  | 7 => tb_ty7
  | 8 => tb_ty8
  | 9 => tb_ty9
  | 10 => tb_ty10
  | _ => tb_ty11
def tb_nf (ci : Nat) : Nat := match ci with
  | 0 => 3
  | 1 => 5
  | 2 => 13
  | 3 => 10
  | 4 => 4
  | 5 => 3
  | 6 => 4
  | 7 => 2
  | 8 => 8
  | 9 => 1
  | 10 => 9
  | 11 => 62
  | _ => 0
def tb_cl : List vw_C := [("AttributeLink$Attribute", tb_T0, 3), ("AttributeLink$Channels", tb_T1, 5), ("AttributeLink$Client", tb_T2, 13), ("AttributeLink$Device", tb_T3, 10), ("AttributeLink$Inbox", tb_T4, 4), ("AttributeLink$Notes", tb_T5, 3), ("AttributeLink$Outbox", tb_T6, 4), ("AttributeLink$Row", tb_T7, 2), ("AttributeLink$Server", tb_T8, 8), ("AttributeLink$Whitening", tb_T9, 1), ("AttributeLink", tb_T10, 9), ("AttributeLinkModel", tb_T11, 62)]
def tb_FT : List (List Nat) := [[12, 0, 0], [10, 12, 12, 0, 0], [12, 12, 12, 12, 12, 0, 0, 0, 0, 0, 0, 0, 1], [12, 12, 12, 12, 12, 0, 1, 0, 0, 0], [12, 12, 1, 1], [12, 0, 0], [12, 0, 0, 0], [12, 0], [12, 0, 12, 0, 12, 12, 0, 1], [12], [12, 12, 12, 12, 12, 12, 0, 0, 1], [0, 10, 12, 0, 0, 0, 0, 1, 0, 12, 12, 12, 12, 12, 12, 12, 12, 12, 12, 12, 12, 12, 12, 12, 12, 12, 12, 0, 12, 0, 12, 0, 12, 12, 12, 12, 12, 0, 1, 0, 12, 12, 12, 12, 0, 0, 0, 0, 0, 0, 0, 12, 0, 12, 0, 0, 12, 1, 1, 0, 12, 12]]
def tb_ft (ci fi : Nat) : Nat := (tb_FT.getD ci []).getD fi 0
def tb_ac (t : Nat) : Nat := match t with
  | 103 => 7
  | _ => 0
def mt_Al_init : am_M := (⟨"AttributeLink", "<init>", "(III)V"⟩, prog_1_method_1_code, 4, none, 10, 3, 128, 1843, [])
def mt_Ch_init : am_M := (⟨"AttributeLink$Channels", "<init>", "(III)V"⟩, prog_3_method_1_code, 6, none, 1, 3, 2, 74, [])
def mt_Ma_floorMod : am_M := (⟨"java/lang/Math", "floorMod", "(II)I"⟩, prog_19_method_50_code, 3, some FieldType.int, 13, 2, 0, 0, [])
def mt_Ch_countUsed : am_M := (⟨"AttributeLink$Channels", "countUsed", "(II)I"⟩, prog_3_method_3_code, 2, some FieldType.int, 1, 2, 0, 0, [])
def mt_Ig_bitCount : am_M := (⟨"java/lang/Integer", "bitCount", "(I)I"⟩, prog_18_method_49_code, 1, some FieldType.int, 14, 1, 0, 0, [])
def mt_Ch_isMarked : am_M := (⟨"AttributeLink$Channels", "isMarked", "(III)Z"⟩, prog_3_method_2_code, 4, some FieldType.boolean, 1, 3, 0, 0, [])
def mt_Wh_init : am_M := (⟨"AttributeLink$Whitening", "<init>", "()V"⟩, prog_11_method_1_code, 1, none, 9, 0, 1, 12, [])
def mt_De_init : am_M := (⟨"AttributeLink$Device", "<init>", "()V"⟩, prog_5_method_1_code, 1, none, 3, 0, 29, 445, [])
def mt_Ou_init : am_M := (⟨"AttributeLink$Outbox", "<init>", "()V"⟩, prog_8_method_1_code, 2, none, 6, 0, 17, 272, [])
def mt_Ro_init : am_M := (⟨"AttributeLink$Row", "<init>", "(I)V"⟩, prog_9_method_1_code, 2, none, 7, 1, 1, 31, [])
def mt_In_init : am_M := (⟨"AttributeLink$Inbox", "<init>", "()V"⟩, prog_6_method_1_code, 1, none, 4, 0, 4, 66, [])
def mt_Cl_init : am_M := (⟨"AttributeLink$Client", "<init>", "()V"⟩, prog_4_method_1_code, 1, none, 2, 0, 18, 271, [])
def mt_No_init : am_M := (⟨"AttributeLink$Notes", "<init>", "()V"⟩, prog_7_method_1_code, 2, none, 5, 0, 9, 136, [])
def mt_Ro_add : am_M := (⟨"AttributeLink$Row", "add", "(I)V"⟩, prog_9_method_7_code, 2, none, 7, 1, 0, 0, [])
def mt_Se_init : am_M := (⟨"AttributeLink$Server", "<init>", "()V"⟩, prog_10_method_1_code, 2, none, 8, 0, 43, 549, [])
def mt_At_init : am_M := (⟨"AttributeLink$Attribute", "<init>", "()V"⟩, prog_2_method_1_code, 1, none, 0, 0, 2, 33, [])
def mt_Al_error : am_M := (⟨"AttributeLink", "error", "()I"⟩, prog_1_method_11_code, 1, some FieldType.int, 10, 0, 0, 0, [])
def mt_Cl_failure : am_M := (⟨"AttributeLink$Client", "failure", "()I"⟩, prog_4_method_4_code, 1, some FieldType.int, 2, 0, 0, 0, [])
def mt_Al_look : am_M := (⟨"AttributeLink", "look", "(I)I"⟩, prog_1_method_16_code, 2, some FieldType.int, 10, 1, 0, 0, [])
def mt_De_misses : am_M := (⟨"AttributeLink$Device", "misses", "()I"⟩, prog_5_method_2_code, 1, some FieldType.int, 3, 0, 0, 0, [])
def mt_Cl_limit : am_M := (⟨"AttributeLink$Client", "limit", "()I"⟩, prog_4_method_2_code, 1, some FieldType.int, 2, 0, 0, 0, [])
def mt_Se_limit : am_M := (⟨"AttributeLink$Server", "limit", "()I"⟩, prog_10_method_5_code, 1, some FieldType.int, 8, 0, 0, 0, [])
def mt_Se_keptParts : am_M := (⟨"AttributeLink$Server", "keptParts", "()I"⟩, prog_10_method_6_code, 1, some FieldType.int, 8, 0, 0, 0, [])
def mt_Se_isUnconfirmed : am_M := (⟨"AttributeLink$Server", "isUnconfirmed", "()Z"⟩, prog_10_method_4_code, 1, some FieldType.boolean, 8, 0, 0, 0, [])
def mt_La_cell : am_M := (⟨"AttributeLinkLaw", "cell", "([II)I"⟩, method_2_code, 2, some FieldType.int, 12, 2, 0, 0, [])
def mt_La_attribute : am_M := (⟨"AttributeLinkLaw", "attribute", "(LAttributeLink;IIJI[J)I"⟩, method_3_code, 8, some FieldType.int, 12, 6, 1, 6, [(0, 14, 17, 13), (0, 14, 21, 15)])
def mt_Al_attribute : am_M := (⟨"AttributeLink", "attribute", "(IIJI)I"⟩, prog_1_method_2_code, 6, some FieldType.int, 10, 4, 1, 6, [])
def mt_Al_isByte : am_M := (⟨"AttributeLink", "isByte", "(I)Z"⟩, prog_1_method_17_code, 1, some FieldType.boolean, 10, 1, 0, 0, [])
def mt_Al_isNumberSize : am_M := (⟨"AttributeLink", "isNumberSize", "(I)Z"⟩, prog_1_method_18_code, 1, some FieldType.boolean, 10, 1, 0, 0, [])
def mt_Se_isFull : am_M := (⟨"AttributeLink$Server", "isFull", "()Z"⟩, prog_10_method_2_code, 1, some FieldType.boolean, 8, 0, 0, 0, [])
def mt_Se_addAttribute : am_M := (⟨"AttributeLink$Server", "addAttribute", "(IIJI)I"⟩, prog_10_method_8_code, 6, some FieldType.int, 8, 4, 0, 0, [])
def mt_At_become : am_M := (⟨"AttributeLink$Attribute", "become", "(II)V"⟩, prog_2_method_2_code, 3, none, 0, 2, 0, 0, [])
def mt_Ro_addNumber : am_M := (⟨"AttributeLink$Row", "addNumber", "(JI)V"⟩, prog_9_method_9_code, 5, none, 7, 2, 0, 0, [])
def mt_La_put : am_M := (⟨"AttributeLinkLaw", "put", "(LAttributeLink;IZJI[J)I"⟩, method_4_code, 8, some FieldType.int, 12, 6, 1, 6, [(0, 14, 17, 13), (0, 14, 21, 15)])
def mt_Al_put : am_M := (⟨"AttributeLink", "put", "(IZJI)I"⟩, prog_1_method_3_code, 7, some FieldType.int, 10, 4, 1, 6, [])
def mt_Se_hasHandle : am_M := (⟨"AttributeLink$Server", "hasHandle", "(I)Z"⟩, prog_10_method_3_code, 2, some FieldType.boolean, 8, 1, 0, 0, [])
def mt_Se_valueOf : am_M := (⟨"AttributeLink$Server", "valueOf", "(I)LAttributeLink$Row;"⟩, prog_10_method_7_code, 2, some (FieldType.object "AttributeLink$Row"), 8, 1, 0, 0, [])
def mt_Ro_length : am_M := (⟨"AttributeLink$Row", "length", "()I"⟩, prog_9_method_2_code, 1, some FieldType.int, 7, 0, 0, 0, [])
def mt_Ro_clear : am_M := (⟨"AttributeLink$Row", "clear", "()V"⟩, prog_9_method_5_code, 1, none, 7, 0, 0, 0, [])
def mt_La_tell : am_M := (⟨"AttributeLinkLaw", "tell", "(LAttributeLink;IZ)I"⟩, method_5_code, 4, some FieldType.int, 12, 3, 1, 6, [(0, 6, 9, 13), (0, 6, 12, 15)])
def mt_Al_tell : am_M := (⟨"AttributeLink", "tell", "(IZ)V"⟩, prog_1_method_4_code, 3, none, 10, 2, 1, 6, [])
def mt_Ou_waiting : am_M := (⟨"AttributeLink$Outbox", "waiting", "()I"⟩, prog_8_method_2_code, 1, some FieldType.int, 6, 0, 0, 0, [])
def mt_Se_sayByItself : am_M := (⟨"AttributeLink$Server", "sayByItself", "(IZLAttributeLink$Outbox;)V"⟩, prog_10_method_9_code, 4, none, 8, 3, 0, 0, [])
def mt_Ro_addFrom : am_M := (⟨"AttributeLink$Row", "addFrom", "(LAttributeLink$Row;II)V"⟩, prog_9_method_8_code, 5, none, 7, 3, 0, 0, [])
def mt_Ou_give : am_M := (⟨"AttributeLink$Outbox", "give", "(LAttributeLink$Row;)V"⟩, prog_8_method_3_code, 3, none, 6, 1, 0, 0, [])
def mt_La_begin : am_M := (⟨"AttributeLinkLaw", "begin", "(LAttributeLink;II)I"⟩, method_6_code, 4, some FieldType.int, 12, 3, 1, 6, [(0, 6, 9, 13), (0, 6, 12, 15)])
def mt_Al_begin : am_M := (⟨"AttributeLink", "begin", "(II)V"⟩, prog_1_method_5_code, 3, none, 10, 2, 1, 6, [])
def mt_Al_requireIdleClient : am_M := (⟨"AttributeLink", "requireIdleClient", "()V"⟩, prog_1_method_21_code, 1, none, 10, 0, 1, 6, [])
def mt_Cl_mayStart : am_M := (⟨"AttributeLink$Client", "mayStart", "()Z"⟩, prog_4_method_5_code, 1, some FieldType.boolean, 2, 0, 0, 0, [])
def mt_Cl_start : am_M := (⟨"AttributeLink$Client", "start", "(IIJILAttributeLink$Outbox;)V"⟩, prog_4_method_6_code, 7, none, 2, 5, 0, 0, [])
def mt_Cl_composeFirst : am_M := (⟨"AttributeLink$Client", "composeFirst", "()V"⟩, prog_4_method_12_code, 1, none, 2, 0, 0, 0, [])
def mt_Cl_compose : am_M := (⟨"AttributeLink$Client", "compose", "(II)V"⟩, prog_4_method_11_code, 3, none, 2, 2, 0, 0, [])
def mt_Cl_composeFind : am_M := (⟨"AttributeLink$Client", "composeFind", "(I)V"⟩, prog_4_method_13_code, 2, none, 2, 1, 0, 0, [])
def mt_Cl_composePart : am_M := (⟨"AttributeLink$Client", "composePart", "()V"⟩, prog_4_method_14_code, 1, none, 2, 0, 0, 0, [])
def mt_Cl_ask : am_M := (⟨"AttributeLink$Client", "ask", "(LAttributeLink$Outbox;)V"⟩, prog_4_method_10_code, 2, none, 2, 1, 0, 0, [])
def mt_La_write : am_M := (⟨"AttributeLinkLaw", "write", "(LAttributeLink;IJIZ)I"⟩, method_7_code, 7, some FieldType.int, 12, 5, 1, 6, [(0, 10, 13, 13), (0, 10, 17, 15)])
def mt_Al_write : am_M := (⟨"AttributeLink", "write", "(IJIZ)V"⟩, prog_1_method_6_code, 6, none, 10, 4, 1, 6, [])
def mt_La_raw : am_M := (⟨"AttributeLinkLaw", "raw", "(LAttributeLink;JI)I"⟩, method_8_code, 5, some FieldType.int, 12, 3, 1, 6, [(0, 6, 9, 13), (0, 6, 13, 15)])
def mt_Al_raw : am_M := (⟨"AttributeLink", "raw", "(JI)V"⟩, prog_1_method_7_code, 4, none, 10, 2, 1, 6, [])
def mt_La_event : am_M := (⟨"AttributeLinkLaw", "event", "(LAttributeLink;IJJ[J)I"⟩, method_9_code, 8, some FieldType.int, 12, 5, 1, 6, [(0, 13, 16, 13), (0, 13, 20, 15)])
def mt_Al_event : am_M := (⟨"AttributeLink", "event", "(IJJ)I"⟩, prog_1_method_8_code, 6, some FieldType.int, 10, 3, 1, 6, [])
def mt_Al_exchange : am_M := (⟨"AttributeLink", "exchange", "(IJJ)I"⟩, prog_1_method_22_code, 8, some FieldType.int, 10, 3, 0, 0, [])
def mt_Ch_advance : am_M := (⟨"AttributeLink$Channels", "advance", "()I"⟩, prog_3_method_4_code, 1, some FieldType.int, 1, 0, 0, 0, [])
def mt_Wh_tune : am_M := (⟨"AttributeLink$Whitening", "tune", "(I)V"⟩, prog_11_method_2_code, 7, none, 9, 1, 0, 0, [])
def mt_De_send : am_M := (⟨"AttributeLink$Device", "send", "(LAttributeLink$Whitening;)V"⟩, prog_5_method_4_code, 3, none, 3, 1, 0, 0, [])
def mt_Ou_takePiece : am_M := (⟨"AttributeLink$Outbox", "takePiece", "(LAttributeLink$Row;)I"⟩, prog_8_method_4_code, 4, some FieldType.int, 6, 1, 0, 0, [])
def mt_De_checkOf : am_M := (⟨"AttributeLink$Device", "checkOf", "(LAttributeLink$Row;I)I"⟩, prog_5_method_9_code, 7, some FieldType.int, 3, 2, 0, 0, [])
def mt_Ro_at : am_M := (⟨"AttributeLink$Row", "at", "(I)I"⟩, prog_9_method_4_code, 2, some FieldType.int, 7, 1, 0, 0, [])
def mt_Wh_turnOver : am_M := (⟨"AttributeLink$Whitening", "turnOver", "(II)I"⟩, prog_11_method_3_code, 3, some FieldType.int, 9, 2, 0, 0, [])
def mt_De_hear : am_M := (⟨"AttributeLink$Device", "hear", "(LAttributeLink$Row;JLAttributeLink$Whitening;)Z"⟩, prog_5_method_5_code, 6, some FieldType.boolean, 3, 3, 0, 0, [])
def mt_In_forgetDone : am_M := (⟨"AttributeLink$Inbox", "forgetDone", "()V"⟩, prog_6_method_3_code, 1, none, 4, 0, 0, 0, [])
def mt_De_spoilAt : am_M := (⟨"AttributeLink$Device", "spoilAt", "(JI)I"⟩, prog_5_method_6_code, 3, some FieldType.int, 3, 2, 0, 0, [])
def mt_De_isGood : am_M := (⟨"AttributeLink$Device", "isGood", "()Z"⟩, prog_5_method_7_code, 3, some FieldType.boolean, 3, 0, 0, 0, [])
def mt_De_accept : am_M := (⟨"AttributeLink$Device", "accept", "()V"⟩, prog_5_method_8_code, 2, none, 3, 0, 0, 0, [])
def mt_In_take : am_M := (⟨"AttributeLink$Inbox", "take", "(ILAttributeLink$Row;)V"⟩, prog_6_method_4_code, 4, none, 4, 2, 0, 0, [])
def mt_In_isSound : am_M := (⟨"AttributeLink$Inbox", "isSound", "(I)Z"⟩, prog_6_method_5_code, 2, some FieldType.boolean, 4, 1, 0, 0, [])
def mt_In_isDone : am_M := (⟨"AttributeLink$Inbox", "isDone", "()Z"⟩, prog_6_method_2_code, 1, some FieldType.boolean, 4, 0, 0, 0, [])
def mt_Se_serve : am_M := (⟨"AttributeLink$Server", "serve", "(LAttributeLink$Row;LAttributeLink$Outbox;)V"⟩, prog_10_method_10_code, 6, none, 8, 2, 0, 0, [])
def mt_Se_shapeError : am_M := (⟨"AttributeLink$Server", "shapeError", "(LAttributeLink$Row;)I"⟩, prog_10_method_12_code, 3, some FieldType.int, 8, 1, 0, 0, [])
def mt_Se_answerTo : am_M := (⟨"AttributeLink$Server", "answerTo", "(LAttributeLink$Row;)I"⟩, prog_10_method_13_code, 2, some FieldType.int, 8, 1, 0, 0, [])
def mt_Al_boundedLimit : am_M := (⟨"AttributeLink", "boundedLimit", "(I)I"⟩, prog_1_method_19_code, 1, some FieldType.int, 10, 1, 0, 0, [])
def mt_Se_answerFind : am_M := (⟨"AttributeLink$Server", "answerFind", "(II)I"⟩, prog_10_method_14_code, 4, some FieldType.int, 8, 2, 0, 0, [])
def mt_At_isOfType : am_M := (⟨"AttributeLink$Attribute", "isOfType", "(I)Z"⟩, prog_2_method_3_code, 2, some FieldType.boolean, 0, 1, 0, 0, [])
def mt_Se_answerEnd : am_M := (⟨"AttributeLink$Server", "answerEnd", "(Z)I"⟩, prog_10_method_19_code, 4, some FieldType.int, 8, 1, 0, 0, [])
def mt_Se_planParts : am_M := (⟨"AttributeLink$Server", "planParts", "()I"⟩, prog_10_method_20_code, 5, some FieldType.int, 8, 0, 0, 0, [])
def mt_Ro_overlay : am_M := (⟨"AttributeLink$Row", "overlay", "(ILAttributeLink$Row;I)V"⟩, prog_9_method_10_code, 5, none, 7, 3, 0, 0, [])
def mt_Se_answerAccess : am_M := (⟨"AttributeLink$Server", "answerAccess", "(LAttributeLink$Row;)I"⟩, prog_10_method_15_code, 5, some FieldType.int, 8, 1, 0, 0, [])
def mt_At_isReadable : am_M := (⟨"AttributeLink$Attribute", "isReadable", "()Z"⟩, prog_2_method_4_code, 1, some FieldType.boolean, 0, 0, 0, 0, [])
def mt_Se_answerRead : am_M := (⟨"AttributeLink$Server", "answerRead", "(ILAttributeLink$Row;I)I"⟩, prog_10_method_16_code, 4, some FieldType.int, 8, 3, 0, 0, [])
def mt_At_isWritable : am_M := (⟨"AttributeLink$Attribute", "isWritable", "()Z"⟩, prog_2_method_5_code, 1, some FieldType.boolean, 0, 0, 0, 0, [])
def mt_Se_answerWrite : am_M := (⟨"AttributeLink$Server", "answerWrite", "(LAttributeLink$Row;LAttributeLink$Row;)I"⟩, prog_10_method_17_code, 3, some FieldType.int, 8, 2, 0, 0, [])
def mt_Se_answerPart : am_M := (⟨"AttributeLink$Server", "answerPart", "(LAttributeLink$Row;)I"⟩, prog_10_method_18_code, 2, some FieldType.int, 8, 1, 0, 0, [])
def mt_Se_answerError : am_M := (⟨"AttributeLink$Server", "answerError", "(III)V"⟩, prog_10_method_11_code, 4, none, 8, 3, 0, 0, [])
def mt_Cl_listen : am_M := (⟨"AttributeLink$Client", "listen", "(LAttributeLink$Row;LAttributeLink$Outbox;)V"⟩, prog_4_method_8_code, 4, none, 2, 2, 0, 0, [])
def mt_Cl_keepNote : am_M := (⟨"AttributeLink$Client", "keepNote", "(LAttributeLink$Row;LAttributeLink$Outbox;)V"⟩, prog_4_method_9_code, 3, none, 2, 2, 0, 0, [])
def mt_No_keep : am_M := (⟨"AttributeLink$Notes", "keep", "(LAttributeLink$Row;)V"⟩, prog_7_method_4_code, 2, none, 5, 1, 0, 0, [])
def mt_Cl_endsWith : am_M := (⟨"AttributeLink$Client", "endsWith", "(LAttributeLink$Row;)Z"⟩, prog_4_method_17_code, 2, some FieldType.boolean, 2, 1, 0, 0, [])
def mt_Cl_succeed : am_M := (⟨"AttributeLink$Client", "succeed", "()V"⟩, prog_4_method_15_code, 1, none, 2, 0, 0, 0, [])
def mt_Cl_fail : am_M := (⟨"AttributeLink$Client", "fail", "(I)V"⟩, prog_4_method_16_code, 2, none, 2, 1, 0, 0, [])
def mt_Cl_takeError : am_M := (⟨"AttributeLink$Client", "takeError", "(I)V"⟩, prog_4_method_18_code, 2, none, 2, 1, 0, 0, [])
def mt_Cl_neededBytes : am_M := (⟨"AttributeLink$Client", "neededBytes", "()I"⟩, prog_4_method_19_code, 1, some FieldType.int, 2, 0, 0, 0, [])
def mt_Cl_goOn : am_M := (⟨"AttributeLink$Client", "goOn", "(LAttributeLink$Row;)V"⟩, prog_4_method_20_code, 2, none, 2, 1, 0, 0, [])
def mt_Cl_goOnReading : am_M := (⟨"AttributeLink$Client", "goOnReading", "(LAttributeLink$Row;)V"⟩, prog_4_method_21_code, 2, none, 2, 1, 0, 0, [])
def mt_Ro_cut : am_M := (⟨"AttributeLink$Row", "cut", "(I)V"⟩, prog_9_method_6_code, 2, none, 7, 1, 0, 0, [])
def mt_Cl_goOnFinding : am_M := (⟨"AttributeLink$Client", "goOnFinding", "(I)V"⟩, prog_4_method_22_code, 2, none, 2, 1, 0, 0, [])
def mt_Cl_goOnWriting : am_M := (⟨"AttributeLink$Client", "goOnWriting", "(LAttributeLink$Row;)V"⟩, prog_4_method_23_code, 2, none, 2, 1, 0, 0, [])
def mt_Ro_isSameFrom : am_M := (⟨"AttributeLink$Row", "isSameFrom", "(ILAttributeLink$Row;)Z"⟩, prog_9_method_11_code, 4, some FieldType.boolean, 7, 2, 0, 0, [])
def mt_Al_finish : am_M := (⟨"AttributeLink", "finish", "(ZZ)V"⟩, prog_1_method_23_code, 3, none, 10, 2, 0, 0, [])
def mt_De_countMiss : am_M := (⟨"AttributeLink$Device", "countMiss", "(Z)V"⟩, prog_5_method_3_code, 2, none, 3, 1, 0, 0, [])
def mt_Cl_endEvent : am_M := (⟨"AttributeLink$Client", "endEvent", "(Z)V"⟩, prog_4_method_7_code, 2, none, 2, 1, 0, 0, [])
def mt_La_run : am_M := (⟨"AttributeLinkLaw", "run", "(LAttributeLink;I[J)I"⟩, method_10_code, 4, some FieldType.int, 12, 3, 1, 6, [(0, 9, 12, 13)])
def mt_Al_run : am_M := (⟨"AttributeLink", "run", "(I)I"⟩, prog_1_method_9_code, 3, some FieldType.int, 10, 1, 1, 6, [])
def mt_La_outcome : am_M := (⟨"AttributeLinkLaw", "outcome", "(LAttributeLink;[J)I"⟩, method_11_code, 3, some FieldType.int, 12, 2, 1, 6, [(0, 8, 11, 49)])
def mt_Al_outcome : am_M := (⟨"AttributeLink", "outcome", "()I"⟩, prog_1_method_10_code, 1, some FieldType.int, 10, 0, 1, 6, [])
def mt_Cl_state : am_M := (⟨"AttributeLink$Client", "state", "()I"⟩, prog_4_method_3_code, 1, some FieldType.int, 2, 0, 0, 0, [])
def mt_La_data : am_M := (⟨"AttributeLinkLaw", "data", "(LAttributeLink;I[J)I"⟩, method_12_code, 4, some FieldType.int, 12, 3, 1, 6, [(0, 9, 12, 54)])
def mt_Al_data : am_M := (⟨"AttributeLink", "data", "(I)I"⟩, prog_1_method_12_code, 2, some FieldType.int, 10, 1, 1, 6, [])
def mt_Al_byteOrLength : am_M := (⟨"AttributeLink", "byteOrLength", "(LAttributeLink$Row;I)I"⟩, prog_1_method_20_code, 2, some FieldType.int, 10, 2, 1, 6, [])
def mt_Ro_has : am_M := (⟨"AttributeLink$Row", "has", "(I)Z"⟩, prog_9_method_3_code, 2, some FieldType.boolean, 7, 1, 0, 0, [])
def mt_La_note : am_M := (⟨"AttributeLinkLaw", "note", "(LAttributeLink;II[J)I"⟩, method_13_code, 5, some FieldType.int, 12, 4, 1, 6, [(0, 10, 13, 49), (0, 10, 17, 54)])
def mt_Al_note : am_M := (⟨"AttributeLink", "note", "(II)I"⟩, prog_1_method_13_code, 3, some FieldType.int, 10, 2, 1, 6, [])
def mt_No_has : am_M := (⟨"AttributeLink$Notes", "has", "(I)Z"⟩, prog_7_method_2_code, 2, some FieldType.boolean, 5, 1, 0, 0, [])
def mt_No_latest : am_M := (⟨"AttributeLink$Notes", "latest", "(I)LAttributeLink$Row;"⟩, prog_7_method_3_code, 2, some (FieldType.object "AttributeLink$Row"), 5, 1, 0, 0, [])
def mt_La_value : am_M := (⟨"AttributeLinkLaw", "value", "(LAttributeLink;II[J)I"⟩, method_14_code, 5, some FieldType.int, 12, 4, 1, 6, [(0, 10, 13, 13), (0, 10, 17, 54)])
def mt_Al_value : am_M := (⟨"AttributeLink", "value", "(II)I"⟩, prog_1_method_14_code, 3, some FieldType.int, 10, 2, 1, 6, [])
def mt_La_air : am_M := (⟨"AttributeLinkLaw", "air", "(LAttributeLink;ZI[J)I"⟩, method_15_code, 5, some FieldType.int, 12, 4, 1, 6, [(0, 10, 13, 49), (0, 10, 17, 54)])
def mt_Al_air : am_M := (⟨"AttributeLink", "air", "(ZI)I"⟩, prog_1_method_15_code, 4, some FieldType.int, 10, 2, 1, 6, [])
def mt_Mo_init : am_M := (⟨"AttributeLinkModel", "<init>", "(III)V"⟩, prog_13_method_1_code, 6, none, 11, 3, 40, 2000, [])
def mt_Mo_thrown : am_M := (⟨"AttributeLinkModel", "thrown", "()I"⟩, prog_13_method_2_code, 1, some FieldType.int, 11, 0, 0, 0, [])
def mt_Mo_attribute : am_M := (⟨"AttributeLinkModel", "attribute", "(IIJI)I"⟩, prog_13_method_36_code, 7, some FieldType.int, 11, 4, 0, 0, [])
def mt_Mo_byteOf : am_M := (⟨"AttributeLinkModel", "byteOf", "(JI)I"⟩, prog_13_method_4_code, 3, some FieldType.int, 11, 2, 0, 0, [])
def mt_Mo_put : am_M := (⟨"AttributeLinkModel", "put", "(IZJI)I"⟩, prog_13_method_37_code, 9, some FieldType.int, 11, 4, 0, 0, [])
def mt_Mo_tell : am_M := (⟨"AttributeLinkModel", "tell", "(IZ)V"⟩, prog_13_method_38_code, 4, none, 11, 2, 0, 0, [])
def mt_Mo_start : am_M := (⟨"AttributeLinkModel", "start", "(I)V"⟩, prog_13_method_5_code, 2, none, 11, 1, 0, 0, [])
def mt_Mo_lay : am_M := (⟨"AttributeLinkModel", "lay", "(I)V"⟩, prog_13_method_6_code, 2, none, 11, 1, 0, 0, [])
def mt_Mo_give : am_M := (⟨"AttributeLinkModel", "give", "(I)V"⟩, prog_13_method_7_code, 5, none, 11, 1, 0, 0, [])
def mt_Mo_begin : am_M := (⟨"AttributeLinkModel", "begin", "(II)V"⟩, prog_13_method_39_code, 3, none, 11, 2, 0, 0, [])
def mt_Mo_free : am_M := (⟨"AttributeLinkModel", "free", "()Z"⟩, prog_13_method_34_code, 1, some FieldType.boolean, 11, 0, 0, 0, [])
def mt_Mo_open : am_M := (⟨"AttributeLinkModel", "open", "(II)V"⟩, prog_13_method_35_code, 3, none, 11, 2, 0, 0, [])
def mt_Mo_ask : am_M := (⟨"AttributeLinkModel", "ask", "()V"⟩, prog_13_method_8_code, 2, none, 11, 0, 0, 0, [])
def mt_Mo_write : am_M := (⟨"AttributeLinkModel", "write", "(IJIZ)V"⟩, prog_13_method_40_code, 7, none, 11, 4, 0, 0, [])
def mt_Mo_writeOn : am_M := (⟨"AttributeLinkModel", "writeOn", "()V"⟩, prog_13_method_32_code, 2, none, 11, 0, 0, 0, [])
def mt_Mo_raw : am_M := (⟨"AttributeLinkModel", "raw", "(JI)V"⟩, prog_13_method_41_code, 5, none, 11, 2, 0, 0, [])
def mt_Mo_event : am_M := (⟨"AttributeLinkModel", "event", "(IJJ)I"⟩, prog_13_method_45_code, 6, some FieldType.int, 11, 3, 0, 0, [])
def mt_Mo_happen : am_M := (⟨"AttributeLinkModel", "happen", "(IJJ)I"⟩, prog_13_method_44_code, 8, some FieldType.int, 11, 3, 0, 0, [])
def mt_Mo_choose : am_M := (⟨"AttributeLinkModel", "choose", "()V"⟩, prog_13_method_42_code, 4, none, 11, 0, 0, 0, [])
def mt_Mo_carry : am_M := (⟨"AttributeLinkModel", "carry", "(IZJ)Z"⟩, prog_13_method_43_code, 6, some FieldType.boolean, 11, 3, 0, 0, [])
def mt_Mo_send : am_M := (⟨"AttributeLinkModel", "send", "(I)V"⟩, prog_13_method_12_code, 5, none, 11, 1, 0, 0, [])
def mt_Mo_take : am_M := (⟨"AttributeLinkModel", "take", "(I)V"⟩, prog_13_method_11_code, 3, none, 11, 1, 0, 0, [])
def mt_Mo_check : am_M := (⟨"AttributeLinkModel", "check", "(I)I"⟩, prog_13_method_9_code, 7, some FieldType.int, 11, 1, 0, 0, [])
def mt_Mo_whiten : am_M := (⟨"AttributeLinkModel", "whiten", "()V"⟩, prog_13_method_10_code, 5, none, 11, 0, 0, 0, [])
def mt_Mo_hear : am_M := (⟨"AttributeLinkModel", "hear", "(I)Z"⟩, prog_13_method_13_code, 4, some FieldType.boolean, 11, 1, 0, 0, [])
def mt_Mo_collect : am_M := (⟨"AttributeLinkModel", "collect", "(II)V"⟩, prog_13_method_14_code, 7, none, 11, 2, 0, 0, [])
def mt_Mo_clientHandles : am_M := (⟨"AttributeLinkModel", "clientHandles", "()V"⟩, prog_13_method_26_code, 3, none, 11, 0, 0, 0, [])
def mt_Mo_answered : am_M := (⟨"AttributeLinkModel", "answered", "()V"⟩, prog_13_method_28_code, 3, none, 11, 0, 0, 0, [])
def mt_Mo_end : am_M := (⟨"AttributeLinkModel", "end", "(II)V"⟩, prog_13_method_27_code, 3, none, 11, 2, 0, 0, [])
def mt_Mo_limits : am_M := (⟨"AttributeLinkModel", "limits", "()V"⟩, prog_13_method_29_code, 2, none, 11, 0, 0, 0, [])
def mt_Mo_read : am_M := (⟨"AttributeLinkModel", "read", "()V"⟩, prog_13_method_30_code, 2, none, 11, 0, 0, 0, [])
def mt_Mo_found : am_M := (⟨"AttributeLinkModel", "found", "()V"⟩, prog_13_method_31_code, 1, none, 11, 0, 0, 0, [])
def mt_Mo_written : am_M := (⟨"AttributeLinkModel", "written", "()V"⟩, prog_13_method_33_code, 3, none, 11, 0, 0, 0, [])
def mt_Mo_serverHandles : am_M := (⟨"AttributeLinkModel", "serverHandles", "()V"⟩, prog_13_method_17_code, 2, none, 11, 0, 0, 0, [])
def mt_Mo_refuse : am_M := (⟨"AttributeLinkModel", "refuse", "(II)V"⟩, prog_13_method_15_code, 4, none, 11, 2, 0, 0, [])
def mt_Mo_sized : am_M := (⟨"AttributeLinkModel", "sized", "()Z"⟩, prog_13_method_16_code, 2, some FieldType.boolean, 11, 0, 0, 0, [])
def mt_Mo_agree : am_M := (⟨"AttributeLinkModel", "agree", "()V"⟩, prog_13_method_18_code, 1, none, 11, 0, 0, 0, [])
def mt_Mo_seek : am_M := (⟨"AttributeLinkModel", "seek", "()V"⟩, prog_13_method_19_code, 2, none, 11, 0, 0, 0, [])
def mt_Mo_finish : am_M := (⟨"AttributeLinkModel", "finish", "()V"⟩, prog_13_method_25_code, 5, none, 11, 0, 0, 0, [])
def mt_Mo_judge : am_M := (⟨"AttributeLinkModel", "judge", "()I"⟩, prog_13_method_24_code, 4, some FieldType.int, 11, 0, 0, 0, [])
def mt_Mo_touch : am_M := (⟨"AttributeLinkModel", "touch", "(II)V"⟩, prog_13_method_20_code, 4, none, 11, 2, 0, 0, [])
def mt_Mo_show : am_M := (⟨"AttributeLinkModel", "show", "(III)V"⟩, prog_13_method_21_code, 5, none, 11, 3, 0, 0, [])
def mt_Mo_replace : am_M := (⟨"AttributeLinkModel", "replace", "(I)V"⟩, prog_13_method_22_code, 3, none, 11, 1, 0, 0, [])
def mt_Mo_keep : am_M := (⟨"AttributeLinkModel", "keep", "(I)V"⟩, prog_13_method_23_code, 3, none, 11, 1, 0, 0, [])
def mt_Mo_run : am_M := (⟨"AttributeLinkModel", "run", "(I)I"⟩, prog_13_method_46_code, 4, some FieldType.int, 11, 1, 0, 0, [])
def mt_Mo_outcome : am_M := (⟨"AttributeLinkModel", "outcome", "()I"⟩, prog_13_method_47_code, 1, some FieldType.int, 11, 0, 0, 0, [])
def mt_Mo_error : am_M := (⟨"AttributeLinkModel", "error", "()I"⟩, prog_13_method_48_code, 1, some FieldType.int, 11, 0, 0, 0, [])
def mt_Mo_data : am_M := (⟨"AttributeLinkModel", "data", "(I)I"⟩, prog_13_method_49_code, 2, some FieldType.int, 11, 1, 0, 0, [])
def mt_Mo_note : am_M := (⟨"AttributeLinkModel", "note", "(II)I"⟩, prog_13_method_50_code, 4, some FieldType.int, 11, 2, 0, 0, [])
def mt_Mo_fail : am_M := (⟨"AttributeLinkModel", "fail", "(I)I"⟩, prog_13_method_3_code, 2, some FieldType.int, 11, 1, 0, 0, [])
def mt_Mo_value : am_M := (⟨"AttributeLinkModel", "value", "(II)I"⟩, prog_13_method_51_code, 3, some FieldType.int, 11, 2, 0, 0, [])
def mt_Mo_air : am_M := (⟨"AttributeLinkModel", "air", "(ZI)I"⟩, prog_13_method_52_code, 4, some FieldType.int, 11, 2, 0, 0, [])
def mt_Mo_look : am_M := (⟨"AttributeLinkModel", "look", "(I)I"⟩, prog_13_method_53_code, 2, some FieldType.int, 11, 1, 0, 0, [])
def mt_La_law : am_M := (x, code, 7, ret, 12, 1, 601024, 7293000, [])
def tb_M : List am_M := [mt_Al_init, mt_Ch_init, mt_Ma_floorMod, mt_Ch_countUsed, mt_Ig_bitCount, mt_Ch_isMarked, mt_Wh_init, mt_De_init, mt_Ou_init, mt_Ro_init, mt_In_init, mt_Cl_init, mt_No_init, mt_Ro_add, mt_Se_init, mt_At_init, mt_Al_error, mt_Cl_failure, mt_Al_look, mt_De_misses, mt_Cl_limit, mt_Se_limit, mt_Se_keptParts, mt_Se_isUnconfirmed, mt_La_cell, mt_La_attribute, mt_Al_attribute, mt_Al_isByte, mt_Al_isNumberSize, mt_Se_isFull, mt_Se_addAttribute, mt_At_become, mt_Ro_addNumber, mt_La_put, mt_Al_put, mt_Se_hasHandle, mt_Se_valueOf, mt_Ro_length, mt_Ro_clear, mt_La_tell, mt_Al_tell, mt_Ou_waiting, mt_Se_sayByItself, mt_Ro_addFrom, mt_Ou_give, mt_La_begin, mt_Al_begin, mt_Al_requireIdleClient, mt_Cl_mayStart, mt_Cl_start, mt_Cl_composeFirst, mt_Cl_compose, mt_Cl_composeFind, mt_Cl_composePart, mt_Cl_ask, mt_La_write, mt_Al_write, mt_La_raw, mt_Al_raw, mt_La_event, mt_Al_event, mt_Al_exchange, mt_Ch_advance, mt_Wh_tune, mt_De_send, mt_Ou_takePiece, mt_De_checkOf, mt_Ro_at, mt_Wh_turnOver, mt_De_hear, mt_In_forgetDone, mt_De_spoilAt, mt_De_isGood, mt_De_accept, mt_In_take, mt_In_isSound, mt_In_isDone, mt_Se_serve, mt_Se_shapeError, mt_Se_answerTo, mt_Al_boundedLimit, mt_Se_answerFind, mt_At_isOfType, mt_Se_answerEnd, mt_Se_planParts, mt_Ro_overlay, mt_Se_answerAccess, mt_At_isReadable, mt_Se_answerRead, mt_At_isWritable, mt_Se_answerWrite, mt_Se_answerPart, mt_Se_answerError, mt_Cl_listen, mt_Cl_keepNote, mt_No_keep, mt_Cl_endsWith, mt_Cl_succeed, mt_Cl_fail, mt_Cl_takeError, mt_Cl_neededBytes, mt_Cl_goOn, mt_Cl_goOnReading, mt_Ro_cut, mt_Cl_goOnFinding, mt_Cl_goOnWriting, mt_Ro_isSameFrom, mt_Al_finish, mt_De_countMiss, mt_Cl_endEvent, mt_La_run, mt_Al_run, mt_La_outcome, mt_Al_outcome, mt_Cl_state, mt_La_data, mt_Al_data, mt_Al_byteOrLength, mt_Ro_has, mt_La_note, mt_Al_note, mt_No_has, mt_No_latest, mt_La_value, mt_Al_value, mt_La_air, mt_Al_air, mt_Mo_init, mt_Mo_thrown, mt_Mo_attribute, mt_Mo_byteOf, mt_Mo_put, mt_Mo_tell, mt_Mo_start, mt_Mo_lay, mt_Mo_give, mt_Mo_begin, mt_Mo_free, mt_Mo_open, mt_Mo_ask, mt_Mo_write, mt_Mo_writeOn, mt_Mo_raw, mt_Mo_event, mt_Mo_happen, mt_Mo_choose, mt_Mo_carry, mt_Mo_send, mt_Mo_take, mt_Mo_check, mt_Mo_whiten, mt_Mo_hear, mt_Mo_collect, mt_Mo_clientHandles, mt_Mo_answered, mt_Mo_end, mt_Mo_limits, mt_Mo_read, mt_Mo_found, mt_Mo_written, mt_Mo_serverHandles, mt_Mo_refuse, mt_Mo_sized, mt_Mo_agree, mt_Mo_seek, mt_Mo_finish, mt_Mo_judge, mt_Mo_touch, mt_Mo_show, mt_Mo_replace, mt_Mo_keep, mt_Mo_run, mt_Mo_outcome, mt_Mo_error, mt_Mo_data, mt_Mo_note, mt_Mo_fail, mt_Mo_value, mt_Mo_air, mt_Mo_look, mt_La_law]
def tb_mt (j : Nat) : am_M := tb_M.getD j mt_La_law
abbrev j_Al_init : Nat := 0
abbrev j_Ch_init : Nat := 1
abbrev j_Ma_floorMod : Nat := 2
abbrev j_Ch_countUsed : Nat := 3
abbrev j_Ig_bitCount : Nat := 4
abbrev j_Ch_isMarked : Nat := 5
abbrev j_Wh_init : Nat := 6
abbrev j_De_init : Nat := 7
abbrev j_Ou_init : Nat := 8
abbrev j_Ro_init : Nat := 9
abbrev j_In_init : Nat := 10
abbrev j_Cl_init : Nat := 11
abbrev j_No_init : Nat := 12
abbrev j_Ro_add : Nat := 13
abbrev j_Se_init : Nat := 14
abbrev j_At_init : Nat := 15
abbrev j_Al_error : Nat := 16
abbrev j_Cl_failure : Nat := 17
abbrev j_Al_look : Nat := 18
abbrev j_De_misses : Nat := 19
abbrev j_Cl_limit : Nat := 20
abbrev j_Se_limit : Nat := 21
abbrev j_Se_keptParts : Nat := 22
abbrev j_Se_isUnconfirmed : Nat := 23
abbrev j_La_cell : Nat := 24
abbrev j_La_attribute : Nat := 25
abbrev j_Al_attribute : Nat := 26
abbrev j_Al_isByte : Nat := 27
abbrev j_Al_isNumberSize : Nat := 28
abbrev j_Se_isFull : Nat := 29
abbrev j_Se_addAttribute : Nat := 30
abbrev j_At_become : Nat := 31
abbrev j_Ro_addNumber : Nat := 32
abbrev j_La_put : Nat := 33
abbrev j_Al_put : Nat := 34
abbrev j_Se_hasHandle : Nat := 35
abbrev j_Se_valueOf : Nat := 36
abbrev j_Ro_length : Nat := 37
abbrev j_Ro_clear : Nat := 38
abbrev j_La_tell : Nat := 39
abbrev j_Al_tell : Nat := 40
abbrev j_Ou_waiting : Nat := 41
abbrev j_Se_sayByItself : Nat := 42
abbrev j_Ro_addFrom : Nat := 43
abbrev j_Ou_give : Nat := 44
abbrev j_La_begin : Nat := 45
abbrev j_Al_begin : Nat := 46
abbrev j_Al_requireIdleClient : Nat := 47
abbrev j_Cl_mayStart : Nat := 48
abbrev j_Cl_start : Nat := 49
abbrev j_Cl_composeFirst : Nat := 50
abbrev j_Cl_compose : Nat := 51
abbrev j_Cl_composeFind : Nat := 52
abbrev j_Cl_composePart : Nat := 53
abbrev j_Cl_ask : Nat := 54
abbrev j_La_write : Nat := 55
abbrev j_Al_write : Nat := 56
abbrev j_La_raw : Nat := 57
abbrev j_Al_raw : Nat := 58
abbrev j_La_event : Nat := 59
abbrev j_Al_event : Nat := 60
abbrev j_Al_exchange : Nat := 61
abbrev j_Ch_advance : Nat := 62
abbrev j_Wh_tune : Nat := 63
abbrev j_De_send : Nat := 64
abbrev j_Ou_takePiece : Nat := 65
abbrev j_De_checkOf : Nat := 66
abbrev j_Ro_at : Nat := 67
abbrev j_Wh_turnOver : Nat := 68
abbrev j_De_hear : Nat := 69
abbrev j_In_forgetDone : Nat := 70
abbrev j_De_spoilAt : Nat := 71
abbrev j_De_isGood : Nat := 72
abbrev j_De_accept : Nat := 73
abbrev j_In_take : Nat := 74
abbrev j_In_isSound : Nat := 75
abbrev j_In_isDone : Nat := 76
abbrev j_Se_serve : Nat := 77
abbrev j_Se_shapeError : Nat := 78
abbrev j_Se_answerTo : Nat := 79
abbrev j_Al_boundedLimit : Nat := 80
abbrev j_Se_answerFind : Nat := 81
abbrev j_At_isOfType : Nat := 82
abbrev j_Se_answerEnd : Nat := 83
abbrev j_Se_planParts : Nat := 84
abbrev j_Ro_overlay : Nat := 85
abbrev j_Se_answerAccess : Nat := 86
abbrev j_At_isReadable : Nat := 87
abbrev j_Se_answerRead : Nat := 88
abbrev j_At_isWritable : Nat := 89
abbrev j_Se_answerWrite : Nat := 90
abbrev j_Se_answerPart : Nat := 91
abbrev j_Se_answerError : Nat := 92
abbrev j_Cl_listen : Nat := 93
abbrev j_Cl_keepNote : Nat := 94
abbrev j_No_keep : Nat := 95
abbrev j_Cl_endsWith : Nat := 96
abbrev j_Cl_succeed : Nat := 97
abbrev j_Cl_fail : Nat := 98
abbrev j_Cl_takeError : Nat := 99
abbrev j_Cl_neededBytes : Nat := 100
abbrev j_Cl_goOn : Nat := 101
abbrev j_Cl_goOnReading : Nat := 102
abbrev j_Ro_cut : Nat := 103
abbrev j_Cl_goOnFinding : Nat := 104
abbrev j_Cl_goOnWriting : Nat := 105
abbrev j_Ro_isSameFrom : Nat := 106
abbrev j_Al_finish : Nat := 107
abbrev j_De_countMiss : Nat := 108
abbrev j_Cl_endEvent : Nat := 109
abbrev j_La_run : Nat := 110
abbrev j_Al_run : Nat := 111
abbrev j_La_outcome : Nat := 112
abbrev j_Al_outcome : Nat := 113
abbrev j_Cl_state : Nat := 114
abbrev j_La_data : Nat := 115
abbrev j_Al_data : Nat := 116
abbrev j_Al_byteOrLength : Nat := 117
abbrev j_Ro_has : Nat := 118
abbrev j_La_note : Nat := 119
abbrev j_Al_note : Nat := 120
abbrev j_No_has : Nat := 121
abbrev j_No_latest : Nat := 122
abbrev j_La_value : Nat := 123
abbrev j_Al_value : Nat := 124
abbrev j_La_air : Nat := 125
abbrev j_Al_air : Nat := 126
abbrev j_Mo_init : Nat := 127
abbrev j_Mo_thrown : Nat := 128
abbrev j_Mo_attribute : Nat := 129
abbrev j_Mo_byteOf : Nat := 130
abbrev j_Mo_put : Nat := 131
abbrev j_Mo_tell : Nat := 132
abbrev j_Mo_start : Nat := 133
abbrev j_Mo_lay : Nat := 134
abbrev j_Mo_give : Nat := 135
abbrev j_Mo_begin : Nat := 136
abbrev j_Mo_free : Nat := 137
abbrev j_Mo_open : Nat := 138
abbrev j_Mo_ask : Nat := 139
abbrev j_Mo_write : Nat := 140
abbrev j_Mo_writeOn : Nat := 141
abbrev j_Mo_raw : Nat := 142
abbrev j_Mo_event : Nat := 143
abbrev j_Mo_happen : Nat := 144
abbrev j_Mo_choose : Nat := 145
abbrev j_Mo_carry : Nat := 146
abbrev j_Mo_send : Nat := 147
abbrev j_Mo_take : Nat := 148
abbrev j_Mo_check : Nat := 149
abbrev j_Mo_whiten : Nat := 150
abbrev j_Mo_hear : Nat := 151
abbrev j_Mo_collect : Nat := 152
abbrev j_Mo_clientHandles : Nat := 153
abbrev j_Mo_answered : Nat := 154
abbrev j_Mo_end : Nat := 155
abbrev j_Mo_limits : Nat := 156
abbrev j_Mo_read : Nat := 157
abbrev j_Mo_found : Nat := 158
abbrev j_Mo_written : Nat := 159
abbrev j_Mo_serverHandles : Nat := 160
abbrev j_Mo_refuse : Nat := 161
abbrev j_Mo_sized : Nat := 162
abbrev j_Mo_agree : Nat := 163
abbrev j_Mo_seek : Nat := 164
abbrev j_Mo_finish : Nat := 165
abbrev j_Mo_judge : Nat := 166
abbrev j_Mo_touch : Nat := 167
abbrev j_Mo_show : Nat := 168
abbrev j_Mo_replace : Nat := 169
abbrev j_Mo_keep : Nat := 170
abbrev j_Mo_run : Nat := 171
abbrev j_Mo_outcome : Nat := 172
abbrev j_Mo_error : Nat := 173
abbrev j_Mo_data : Nat := 174
abbrev j_Mo_note : Nat := 175
abbrev j_Mo_fail : Nat := 176
abbrev j_Mo_value : Nat := 177
abbrev j_Mo_air : Nat := 178
abbrev j_Mo_look : Nat := 179
abbrev j_La_law : Nat := 180
def tb_PL0 : List (Nat × (Nat × Nat × Nat × Nat) × Nat) := [(3, (7, 0, 0, 0), 2021), (9, (3, 7, 103, 0), 2022), (11, (2, 9, 2, 0), 2023), (14, (1, 0, 0, 0), 2024), (20, (1, 0, 1, 0), 2026), (24, (1, 0, 2, 0), 2027)]
def tb_PL1 : List (Nat × (Nat × Nat × Nat × Nat) × Nat) := [(1, (7, 0, 0, 0), 1036), (7, (2, 2, 1, 0), 1037), (13, (1, 1, 0, 0), 1052), (19, (1, 1, 1, 0), 1053), (23, (1, 1, 2, 0), 1054), (27, (2, 3, 1, 0), 1040), (30, (1, 1, 3, 0), 1055), (33, (2, 5, 1, 0), 1049), (37, (1, 1, 4, 0), 1056), (40, (2, 4, 1, 0), 1043)]
def tb_PL2 : List (Nat × (Nat × Nat × Nat × Nat) × Nat) := [(3, (7, 0, 0, 0), 1182), (9, (3, 5, 0, 0), 1183), (11, (2, 12, 2, 0), 1185), (12, (1, 2, 0, 0), 1207), (18, (3, 7, 103, 0), 1201), (20, (2, 9, 2, 0), 1202), (23, (1, 2, 1, 0), 1209), (27, (1, 2, 2, 0), 1211), (30, (1, 2, 3, 0), 1212), (33, (2, 13, 0, 0), 1203), (36, (1, 2, 4, 0), 1213), (39, (1, 2, 5, 0), 1214), (43, (1, 2, 6, 0), 1215), (46, (1, 2, 7, 0), 1216), (49, (1, 2, 8, 0), 1217), (52, (1, 2, 9, 0), 1218), (55, (1, 2, 10, 0), 1219), (58, (1, 2, 11, 0), 1220), (61, (1, 2, 12, 0), 1221), (65, (2, 38, 0, 0), 3075), (68, (2, 32, 0, 0), 3076), (72, (2, 50, 0, 0), 3077), (75, (2, 54, 0, 0), 3094), (79, (2, 67, 0, 0), 4028), (83, (2, 94, 0, 0), 4029), (87, (2, 96, 0, 0), 4041), (91, (2, 101, 0, 0), 4061), (95, (2, 37, 0, 0), 4033), (99, (2, 95, 0, 0), 4034), (102, (2, 44, 0, 0), 3098), (107, (2, 51, 0, 0), 3081), (111, (2, 52, 0, 0), 3085), (114, (2, 43, 0, 0), 3089), (118, (2, 53, 0, 0), 3090), (121, (2, 97, 0, 0), 4045), (124, (2, 98, 0, 0), 4049), (127, (2, 99, 0, 0), 4053), (130, (2, 100, 0, 0), 4057), (133, (10, 0, 0, 0), 4065), (139, (2, 80, 4, 0), 4066), (142, (2, 102, 0, 0), 4067), (145, (2, 104, 0, 0), 4075), (148, (2, 105, 0, 0), 4079), (151, (2, 103, 0, 0), 4071), (154, (2, 106, 0, 0), 4083)]
def tb_PL3 : List (Nat × (Nat × Nat × Nat × Nat) × Nat) := [(3, (7, 0, 0, 0), 1085), (9, (3, 6, 0, 0), 1086), (11, (2, 8, 2, 0), 1088), (12, (1, 3, 0, 0), 1143), (18, (3, 4, 0, 0), 1119), (20, (2, 10, 2, 0), 1121), (21, (1, 3, 1, 0), 1145), (25, (3, 7, 103, 0), 1141), (27, (2, 9, 2, 0), 1142), (30, (1, 3, 2, 0), 1147), (34, (1, 3, 3, 0), 1149), (37, (1, 3, 4, 0), 1150), (40, (1, 3, 5, 0), 1151), (44, (1, 3, 6, 0), 1152), (48, (1, 3, 7, 0), 1153), (51, (1, 3, 8, 0), 1154), (54, (1, 3, 9, 0), 1155), (57, (2, 65, 0, 0), 3136), (61, (2, 38, 0, 0), 3140), (64, (2, 13, 0, 0), 3141), (67, (2, 37, 0, 0), 3142), (71, (2, 43, 0, 0), 3143), (75, (2, 66, 1, 0), 3144), (79, (2, 32, 0, 0), 3153), (83, (2, 67, 0, 0), 3148), (87, (2, 68, 0, 0), 3154), (93, (2, 70, 0, 0), 3162), (96, (2, 71, 1, 0), 3166), (100, (2, 72, 0, 0), 3169), (104, (2, 73, 0, 0), 3173), (107, (2, 74, 0, 0), 3177)]
def tb_PL4 : List (Nat × (Nat × Nat × Nat × Nat) × Nat) := [(3, (7, 0, 0, 0), 1124), (9, (3, 7, 103, 0), 1125), (11, (2, 9, 2, 0), 1126), (14, (1, 4, 0, 0), 1127), (20, (1, 4, 1, 0), 1129), (23, (1, 4, 2, 0), 1130), (27, (1, 4, 3, 0), 1131), (30, (2, 38, 0, 0), 3181), (33, (2, 67, 0, 0), 3182), (37, (2, 43, 0, 0), 3183), (41, (2, 75, 0, 0), 3184), (45, (2, 37, 0, 0), 3188)]
def tb_PL5 : List (Nat × (Nat × Nat × Nat × Nat) × Nat) := [(3, (7, 0, 0, 0), 1188), (11, (3, 7, 103, 0), 1189), (13, (1, 5, 0, 0), 1191), (17, (2, 9, 2, 0), 1190), (20, (1, 5, 1, 0), 1192), (24, (1, 5, 2, 0), 1193), (27, (2, 2, 1, 0), 4180), (33, (2, 38, 0, 0), 4038), (36, (2, 43, 0, 0), 4039), (40, (10, 0, 0, 0), 4040)]
def tb_PL6 : List (Nat × (Nat × Nat × Nat × Nat) × Nat) := [(3, (7, 0, 0, 0), 1091), (11, (3, 7, 103, 0), 1092), (13, (1, 6, 0, 0), 1106), (17, (2, 9, 2, 0), 1095), (20, (1, 6, 1, 0), 1107), (24, (1, 6, 2, 0), 1108), (27, (1, 6, 3, 0), 1109), (30, (2, 38, 0, 0), 3052), (33, (2, 37, 0, 0), 3053), (37, (2, 13, 0, 0), 3054), (40, (2, 43, 0, 0), 3055)]
def tb_PL7 : List (Nat × (Nat × Nat × Nat × Nat) × Nat) := [(1, (7, 0, 0, 0), 1098), (7, (1, 7, 0, 0), 1099), (13, (1, 7, 1, 0), 1100), (17, (10, 0, 0, 0), 3042), (23, (8, 0, 0, 0), 3045), (29, (2, 13, 0, 0), 2235), (33, (11, 0, 0, 0), 3234), (36, (2, 67, 0, 0), 4087)]
def tb_PL8 : List (Nat × (Nat × Nat × Nat × Nat) × Nat) := [(3, (7, 0, 0, 0), 2014), (11, (3, 0, 104, 0), 2015), (13, (1, 8, 0, 0), 2037), (17, (2, 15, 2, 0), 2018), (18, (1, 8, 1, 0), 2038), (22, (3, 7, 103, 0), 2035), (24, (1, 8, 2, 0), 2039), (28, (2, 9, 2, 0), 2036), (31, (1, 8, 3, 0), 2040), (34, (1, 8, 4, 0), 2041), (38, (1, 8, 5, 0), 2042), (42, (1, 8, 6, 0), 2043), (45, (1, 8, 7, 0), 2044), (49, (1, 0, 0, 0), 2025), (52, (2, 31, 0, 0), 2227), (56, (2, 32, 0, 0), 2231), (60, (2, 38, 0, 0), 3035), (63, (2, 13, 0, 0), 3036), (66, (2, 36, 0, 0), 3037), (70, (2, 43, 0, 0), 3038), (74, (2, 44, 0, 0), 3048), (80, (2, 37, 0, 0), 3197), (84, (2, 67, 0, 0), 3198), (88, (2, 78, 1, 0), 3199), (92, (2, 79, 0, 0), 3202), (95, (2, 92, 0, 0), 4020), (99, (2, 80, 4, 0), 3206), (102, (2, 81, 0, 0), 3213), (106, (2, 83, 0, 0), 3222), (110, (2, 86, 0, 0), 3235), (113, (11, 0, 0, 0), 3217), (118, (2, 82, 0, 0), 3218), (122, (2, 35, 0, 0), 3239), (125, (2, 87, 0, 0), 4000), (129, (2, 88, 0, 0), 4004), (133, (2, 89, 0, 0), 4008), (136, (2, 90, 0, 0), 4012), (140, (2, 91, 0, 0), 4016), (143, (2, 84, 0, 0), 3226), (146, (2, 85, 0, 0), 3230)]
def tb_PL9 : List (Nat × (Nat × Nat × Nat × Nat) × Nat) := [(3, (7, 0, 0, 0), 1075), (9, (1, 9, 0, 0), 1076)]
def tb_PL10 : List (Nat × (Nat × Nat × Nat × Nat) × Nat) := [(3, (7, 0, 0, 0), 1028), (9, (3, 1, 0, 0), 1031), (11, (2, 1, 2, 0), 1033), (14, (1, 10, 0, 0), 2062), (18, (3, 9, 0, 0), 1070), (20, (2, 6, 2, 0), 1072), (21, (1, 10, 1, 0), 2063), (25, (3, 3, 0, 0), 1080), (27, (2, 7, 2, 0), 1082), (28, (1, 10, 2, 0), 2064), (32, (1, 10, 3, 0), 2065), (35, (3, 2, 0, 0), 1177), (37, (2, 11, 2, 0), 1179), (38, (1, 10, 4, 0), 2066), (42, (3, 8, 0, 0), 2009), (44, (2, 14, 2, 0), 2011), (45, (1, 10, 5, 0), 2067), (49, (1, 10, 6, 0), 2068), (53, (1, 10, 7, 0), 2069), (56, (1, 10, 8, 0), 2070), (60, (2, 27, 1, 0), 2134), (64, (2, 28, 1, 0), 2137), (67, (5, 0, 69, 0), 2140), (70, (2, 29, 0, 0), 2204), (74, (5, 1, 76, 0), 2208), (77, (2, 30, 0, 0), 2223), (81, (2, 35, 0, 0), 3003), (84, (2, 36, 0, 0), 3007), (88, (2, 37, 0, 0), 3011), (94, (2, 38, 0, 0), 3015), (97, (2, 32, 0, 0), 3019), (101, (1, 3, 0, 0), 1144), (105, (2, 41, 0, 0), 3027), (110, (2, 23, 0, 0), 2118), (113, (2, 42, 0, 0), 3031), (117, (2, 47, 0, 0), 3063), (120, (2, 49, 0, 0), 3071), (124, (2, 20, 0, 0), 2106), (127, (2, 61, 0, 0), 3120), (131, (2, 114, 0, 0), 4115), (134, (5, 2, 136, 0), 4119), (137, (2, 17, 0, 0), 2094), (140, (1, 2, 1, 0), 1210), (144, (2, 117, 1, 0), 4142), (148, (1, 2, 0, 0), 1208), (152, (2, 121, 0, 0), 4172), (157, (2, 122, 0, 0), 4176), (160, (1, 3, 2, 0), 1148), (163, (2, 19, 0, 0), 2102), (166, (2, 21, 0, 0), 2110), (167, (2, 22, 0, 0), 2114), (170, (10, 0, 0, 0), 3209), (176, (11, 0, 0, 0), 3210), (179, (2, 118, 0, 0), 4145), (180, (5, 3, 182, 0), 4149), (183, (2, 67, 0, 0), 4164), (187, (2, 48, 0, 0), 3067), (190, (2, 62, 0, 0), 3124), (193, (2, 63, 0, 0), 3128), (197, (2, 64, 0, 0), 3132), (201, (2, 69, 0, 0), 3158), (205, (1, 3, 1, 0), 1146), (209, (2, 76, 0, 0), 3189), (214, (1, 4, 0, 0), 1128), (217, (2, 77, 0, 0), 3193), (221, (2, 93, 0, 0), 4024), (224, (2, 107, 0, 0), 4088), (228, (2, 108, 0, 0), 4092), (232, (2, 109, 0, 0), 4096)]
def tb_PL11 : List (Nat × (Nat × Nat × Nat × Nat) × Nat) := [(1, (7, 0, 0, 0), 4200), (7, (1, 11, 2, 0), 4203), (13, (1, 11, 5, 0), 4206), (17, (1, 11, 9, 0), 4210), (21, (1, 11, 10, 0), 4211), (24, (1, 11, 11, 0), 4212), (27, (1, 11, 12, 0), 4213), (30, (1, 11, 13, 0), 4214), (33, (1, 11, 14, 0), 4215), (36, (1, 11, 15, 0), 4216), (39, (1, 11, 16, 0), 4217), (42, (1, 11, 17, 0), 4218), (45, (1, 11, 18, 0), 4219), (48, (1, 11, 19, 0), 4220), (51, (1, 11, 20, 0), 4221), (54, (1, 11, 21, 0), 4222), (57, (1, 11, 22, 0), 4223), (60, (1, 11, 23, 0), 4224), (63, (1, 11, 24, 0), 4225), (66, (1, 11, 25, 0), 4226), (69, (1, 11, 26, 0), 4227), (72, (1, 11, 28, 0), 4229), (75, (1, 11, 30, 0), 4231), (78, (1, 11, 32, 0), 4233), (81, (1, 11, 33, 0), 4234), (84, (1, 11, 34, 0), 4235), (87, (1, 11, 35, 0), 4236), (90, (1, 11, 36, 0), 4237), (93, (1, 11, 37, 0), 4238), (96, (1, 11, 40, 0), 5001), (99, (1, 11, 41, 0), 5002), (102, (1, 11, 42, 0), 5003), (105, (1, 11, 43, 0), 5004), (108, (1, 11, 44, 0), 5005), (111, (1, 11, 47, 0), 5008), (114, (1, 11, 51, 0), 5012), (117, (1, 11, 53, 0), 5014), (120, (1, 11, 56, 0), 5017), (123, (1, 11, 60, 0), 5021), (126, (1, 11, 61, 0), 5022), (129, (1, 11, 1, 0), 4202), (132, (1, 11, 3, 0), 4204), (135, (1, 11, 0, 0), 4201), (140, (1, 11, 29, 0), 4230), (143, (1, 11, 49, 0), 5010), (146, (1, 11, 50, 0), 5011), (149, (2, 135, 0, 0), 5176), (156, (1, 11, 8, 0), 4209), (159, (2, 148, 0, 0), 5228), (162, (2, 149, 0, 0), 5232), (166, (2, 150, 0, 0), 5239), (170, (2, 152, 0, 0), 6008), (174, (1, 11, 27, 0), 4228), (177, (2, 153, 0, 0), 6012), (180, (2, 160, 0, 0), 6040), (183, (2, 133, 0, 0), 5168), (186, (2, 134, 0, 0), 5172), (189, (1, 11, 38, 0), 4239), (193, (2, 161, 0, 0), 6044), (196, (2, 162, 0, 0), 6048), (200, (2, 163, 0, 0), 6052), (203, (2, 164, 0, 0), 6056), (206, (2, 165, 0, 0), 6060), (209, (2, 167, 0, 0), 6068), (212, (1, 11, 31, 0), 4232), (215, (2, 168, 0, 0), 6072), (219, (2, 169, 0, 0), 6076), (222, (2, 170, 0, 0), 6080), (225, (1, 11, 39, 0), 5000), (228, (2, 166, 0, 0), 6064), (232, (1, 11, 59, 0), 5020), (235, (1, 11, 45, 0), 5006), (238, (2, 154, 0, 0), 6016), (241, (1, 11, 48, 0), 5009), (244, (1, 11, 57, 0), 5018), (247, (2, 155, 0, 0), 6020), (250, (2, 156, 0, 0), 6024), (253, (2, 157, 0, 0), 6028), (256, (2, 158, 0, 0), 6032), (259, (2, 159, 0, 0), 6036), (262, (1, 11, 52, 0), 5013), (265, (1, 11, 46, 0), 5007), (268, (2, 139, 0, 0), 5192), (271, (1, 11, 55, 0), 5016), (274, (1, 11, 54, 0), 5015), (277, (1, 11, 58, 0), 5019), (280, (2, 141, 0, 0), 5200), (283, (1, 11, 7, 0), 4208), (286, (2, 130, 1, 0), 5156), (290, (2, 137, 0, 0), 5184), (293, (2, 138, 0, 0), 5188), (296, (1, 11, 4, 0), 4205), (299, (2, 147, 0, 0), 5224), (302, (2, 151, 0, 0), 6003), (306, (1, 11, 6, 0), 4207), (309, (2, 145, 0, 0), 5216), (312, (2, 146, 0, 0), 5220), (316, (2, 144, 0, 0), 5212), (320, (2, 176, 0, 0), 6104)]
def tb_PL12 : List (Nat × (Nat × Nat × Nat × Nat) × Nat) := [(7, (2, 26, 0, 0), 2130), (8, (3, 10, 0, 0), 1023), (13, (9, 0, 0, 0), 2128), (15, (9, 1, 0, 0), 2129), (17, (2, 34, 0, 0), 2239), (21, (2, 40, 0, 0), 3023), (25, (2, 46, 0, 0), 3059), (29, (2, 56, 0, 0), 3102), (33, (2, 58, 0, 0), 3109), (37, (2, 60, 0, 0), 3116), (41, (2, 111, 0, 0), 4103), (45, (2, 113, 0, 0), 4111), (49, (9, 2, 0, 0), 4110), (51, (2, 116, 0, 0), 4138), (54, (9, 3, 0, 0), 4137), (56, (2, 120, 0, 0), 4168), (60, (2, 124, 0, 0), 4184), (63, (2, 126, 0, 0), 4191), (67, (2, 24, 1, 0), 2122), (73, (2, 0, 2, 0), 1025), (76, (3, 11, 0, 0), 4195), (78, (2, 127, 2, 0), 4197), (81, (2, 25, 1, 0), 2125), (84, (2, 129, 0, 0), 5152), (85, (2, 128, 0, 0), 5148), (88, (2, 33, 1, 0), 2236), (91, (2, 131, 0, 0), 5160), (92, (2, 39, 1, 0), 3020), (95, (2, 132, 0, 0), 5164), (96, (2, 45, 1, 0), 3056), (99, (2, 136, 0, 0), 5180), (100, (2, 55, 1, 0), 3099), (103, (2, 140, 0, 0), 5196), (104, (2, 57, 1, 0), 3106), (107, (2, 142, 0, 0), 5204), (108, (2, 59, 1, 0), 3113), (111, (2, 143, 0, 0), 5208), (112, (2, 110, 1, 0), 4100), (115, (2, 171, 0, 0), 6084), (116, (2, 112, 1, 0), 4107), (119, (2, 172, 0, 0), 6088), (120, (2, 16, 0, 0), 2090), (123, (2, 173, 0, 0), 6092), (124, (2, 115, 1, 0), 4134), (126, (2, 174, 0, 0), 6096), (127, (2, 119, 1, 0), 4165), (130, (2, 175, 0, 0), 6100), (131, (2, 123, 1, 0), 4181), (133, (2, 177, 0, 0), 6108), (134, (2, 125, 1, 0), 4188), (137, (2, 178, 0, 0), 6112), (138, (2, 18, 0, 0), 2098), (141, (2, 179, 0, 0), 6116)]
def tb_PL13 : List (Nat × (Nat × Nat × Nat × Nat) × Nat) := []
def tb_PL14 : List (Nat × (Nat × Nat × Nat × Nat) × Nat) := []
def tb_PL : List (List (Nat × (Nat × Nat × Nat × Nat) × Nat)) := [tb_PL0, tb_PL1, tb_PL2, tb_PL3, tb_PL4, tb_PL5, tb_PL6, tb_PL7, tb_PL8, tb_PL9, tb_PL10, tb_PL11, tb_PL12, tb_PL13, tb_PL14]
def tb_pl (o idx : Nat) : Nat × Nat × Nat × Nat := match (tb_PL.getD o []).find? (fun q => q.1 == idx) with
  | some q => q.2.1
  | none => (0, 0, 0, 0)
def tb_KC : List (Nat × Nat × Value × Nat) := [(14, 265, .int 1431655765, 1046), (14, 266, .int 858993459, 1047), (14, 267, .int 252645135, 1048), (3, 111, .int 5592405, 3147), (3, 112, .int 16777215, 3152), (11, 138, .long 255, 5159), (11, 153, .int 5592405, 5236), (11, 154, .int 8388608, 5237), (11, 155, .int 16777216, 5238), (11, 169, .int 65536, 6007), (12, 79, .long 4294967295, 6120)]
def tb_kc (o idx : Nat) : Option Value := match tb_KC.find? (fun q => q.1 == o && q.2.1 == idx) with
  | some q => some q.2.2.1
  | none => none
def tb_G : am_G := (tb_pl, tb_kc, tb_mt, tb_ft, tb_nf, tb_ac)
/-- where a method's words lie: code, initialized, instanceMethod or static, selects -/
def tb_MP : List (Nat × Nat × Nat × Nat) := [(1027, 1001, 1026, 0), (1035, 1002, 1034, 0), (1039, 1003, 1038, 0), (1042, 1002, 1041, 0), (1045, 1004, 1044, 0), (1051, 1002, 1050, 0), (1074, 1005, 1073, 0), (1084, 1006, 1083, 0), (1090, 1007, 1089, 0), (1097, 1008, 1096, 0), (1123, 1009, 1122, 0), (1181, 1010, 1180, 0), (1187, 1011, 1186, 0), (1206, 1008, 1204, 1205), (2013, 1012, 2012, 0), (2020, 1013, 2019, 0), (2093, 1001, 2091, 2092), (2097, 1010, 2095, 2096), (2101, 1001, 2099, 2100), (2105, 1006, 2103, 2104), (2109, 1010, 2107, 2108), (2113, 1012, 2111, 2112), (2117, 1012, 2115, 2116), (2121, 1012, 2119, 2120), (2124, 1000, 2123, 0), (2127, 1000, 2126, 0), (2133, 1001, 2131, 2132), (2136, 1001, 2135, 0), (2139, 1001, 2138, 0), (2207, 1012, 2205, 2206), (2226, 1012, 2224, 2225), (2230, 1013, 2228, 2229), (2234, 1008, 2232, 2233), (2238, 1000, 2237, 0), (3002, 1001, 3000, 3001), (3006, 1012, 3004, 3005), (3010, 1012, 3008, 3009), (3014, 1008, 3012, 3013), (3018, 1008, 3016, 3017), (3022, 1000, 3021, 0), (3026, 1001, 3024, 3025), (3030, 1007, 3028, 3029), (3034, 1012, 3032, 3033), (3041, 1008, 3039, 3040), (3051, 1007, 3049, 3050), (3058, 1000, 3057, 0), (3062, 1001, 3060, 3061), (3066, 1001, 3065, 1), (3070, 1010, 3068, 3069), (3074, 1010, 3072, 3073), (3080, 1010, 3079, 2), (3084, 1010, 3083, 3), (3088, 1010, 3087, 4), (3093, 1010, 3092, 5), (3097, 1010, 3096, 6), (3101, 1000, 3100, 0), (3105, 1001, 3103, 3104), (3108, 1000, 3107, 0), (3112, 1001, 3110, 3111), (3115, 1000, 3114, 0), (3119, 1001, 3117, 3118), (3123, 1001, 3122, 7), (3127, 1002, 3125, 3126), (3131, 1005, 3129, 3130), (3135, 1006, 3133, 3134), (3139, 1007, 3137, 3138), (3146, 1006, 3145, 0), (3151, 1008, 3149, 3150), (3157, 1005, 3155, 3156), (3161, 1006, 3159, 3160), (3165, 1009, 3163, 3164), (3168, 1006, 3167, 0), (3172, 1006, 3171, 8), (3176, 1006, 3175, 9), (3180, 1009, 3178, 3179), (3187, 1009, 3186, 10), (3192, 1009, 3190, 3191), (3196, 1012, 3194, 3195), (3201, 1012, 3200, 0), (3205, 1012, 3204, 11), (3208, 1001, 3207, 0), (3216, 1012, 3215, 12), (3221, 1013, 3219, 3220), (3225, 1012, 3224, 13), (3229, 1012, 3228, 14), (3233, 1008, 3231, 3232), (3238, 1012, 3237, 15), (4003, 1013, 4001, 4002), (4007, 1012, 4006, 16), (4011, 1013, 4009, 4010), (4015, 1012, 4014, 17), (4019, 1012, 4018, 18), (4023, 1012, 4022, 19), (4027, 1010, 4025, 4026), (4032, 1010, 4031, 20), (4037, 1011, 4035, 4036), (4044, 1010, 4043, 21), (4048, 1010, 4047, 22), (4052, 1010, 4051, 23), (4056, 1010, 4055, 24), (4060, 1010, 4059, 25), (4064, 1010, 4063, 26), (4070, 1010, 4069, 27), (4074, 1008, 4072, 4073), (4078, 1010, 4077, 28), (4082, 1010, 4081, 29), (4086, 1008, 4084, 4085), (4091, 1001, 4090, 30), (4095, 1006, 4093, 4094), (4099, 1010, 4097, 4098), (4102, 1000, 4101, 0), (4106, 1001, 4104, 4105), (4109, 1000, 4108, 0), (4114, 1001, 4112, 4113), (4118, 1010, 4116, 4117), (4136, 1000, 4135, 0), (4141, 1001, 4139, 4140), (4144, 1001, 4143, 0), (4148, 1008, 4146, 4147), (4167, 1000, 4166, 0), (4171, 1001, 4169, 4170), (4175, 1011, 4173, 4174), (4179, 1011, 4177, 4178), (4183, 1000, 4182, 0), (4187, 1001, 4185, 4186), (4190, 1000, 4189, 0), (4194, 1001, 4192, 4193), (4199, 1014, 4198, 0), (5151, 1014, 5149, 5150), (5155, 1014, 5153, 5154), (5158, 1014, 5157, 0), (5163, 1014, 5161, 5162), (5167, 1014, 5165, 5166), (5171, 1014, 5170, 31), (5175, 1014, 5174, 32), (5179, 1014, 5178, 33), (5183, 1014, 5181, 5182), (5187, 1014, 5186, 34), (5191, 1014, 5190, 35), (5195, 1014, 5194, 36), (5199, 1014, 5197, 5198), (5203, 1014, 5202, 37), (5207, 1014, 5205, 5206), (5211, 1014, 5209, 5210), (5215, 1014, 5214, 38), (5219, 1014, 5218, 39), (5223, 1014, 5222, 40), (5227, 1014, 5226, 41), (5231, 1014, 5230, 42), (5235, 1014, 5234, 43), (6002, 1014, 6001, 44), (6006, 1014, 6005, 45), (6011, 1014, 6010, 46), (6015, 1014, 6014, 47), (6019, 1014, 6018, 48), (6023, 1014, 6022, 49), (6027, 1014, 6026, 50), (6031, 1014, 6030, 51), (6035, 1014, 6034, 52), (6039, 1014, 6038, 53), (6043, 1014, 6042, 54), (6047, 1014, 6046, 55), (6051, 1014, 6050, 56), (6055, 1014, 6054, 57), (6059, 1014, 6058, 58), (6063, 1014, 6062, 59), (6067, 1014, 6066, 60), (6071, 1014, 6070, 61), (6075, 1014, 6074, 62), (6079, 1014, 6078, 63), (6083, 1014, 6082, 64), (6087, 1014, 6085, 6086), (6091, 1014, 6089, 6090), (6095, 1014, 6093, 6094), (6099, 1014, 6097, 6098), (6103, 1014, 6101, 6102), (6107, 1014, 6106, 65), (6111, 1014, 6109, 6110), (6115, 1014, 6113, 6114), (6119, 1014, 6117, 6118)]
def tb_CP : List (Nat × Nat × List Nat) := [(2017, 1013, [2028, 2030, 2032]), (1032, 1002, [1057, 1059, 1061, 1063, 1065]), (1178, 1010, [1222, 1224, 1226, 1228, 1230, 1232, 1234, 1236, 1238, 2000, 2002, 2004, 2006]), (1081, 1006, [1156, 1158, 1160, 1162, 1164, 1166, 1168, 1170, 1172, 1174]), (1120, 1009, [1132, 1134, 1136, 1138]), (1184, 1011, [1194, 1196, 1198]), (1087, 1007, [1110, 1112, 1114, 1116]), (1094, 1008, [1101, 1103]), (2010, 1012, [2045, 2047, 2049, 2051, 2053, 2055, 2057, 2059]), (1071, 1005, [1077]), (1024, 1001, [2071, 2073, 2075, 2077, 2079, 2081, 2083, 2085, 2087]), (4196, 1014, [5023, 5025, 5027, 5029, 5031, 5033, 5035, 5037, 5039, 5041, 5043, 5045, 5047, 5049, 5051, 5053, 5055, 5057, 5059, 5061, 5063, 5065, 5067, 5069, 5071, 5073, 5075, 5077, 5079, 5081, 5083, 5085, 5087, 5089, 5091, 5093, 5095, 5097, 5099, 5101, 5103, 5105, 5107, 5109, 5111, 5113, 5115, 5117, 5119, 5121, 5123, 5125, 5127, 5129, 5131, 5133, 5135, 5137, 5139, 5141, 5143, 5145])]
/-- places of some words: Object.<init> (instanceMethod, code), arraycopy (native, static, System), min (static, code), max (static, code), Math, arrays of Row, of Attribute, array classes (int, boolean, long), castable of the exceptions, initialized of the exceptions -/
def tb_SP : List Nat := [1029, 1030, 3047, 3046, 1020, 3043, 3044, 3211, 3212, 1003, 1093, 2016, 1068, 1069, 6121, 2142, 2210, 4121, 4151, 1018, 1019, 1021, 1022]
/-- where the words of an exception lie (class, exception, place of its constructor, places) -/
def tb_EX : List (Nat × Nat × Nat × List Nat) := [(10, 0, 69, [1015, 2162, 2171, 2176, 2179, 2181, 2163, 2164, 1029, 1030, 2165, 2170, 2177, 2193, 2152, 2194, 2154, 2195, 2156, 2166, 9999, 2168, 9999, 2158, 2183, 2184, 2185, 2186, 2143, 2186, 2187, 2188, 2189, 2145, 2189, 2190, 2191, 2163, 2147, 2182, 2141, 2142, 2149, 2150, 2151, 2153, 2155, 2157, 9999, 9999, 2161, 2160, 2159]), (10, 1, 76, [1015, 2162, 2171, 2176, 2179, 2181, 2163, 2164, 1029, 1030, 2165, 2170, 2177, 2193, 2152, 2194, 2154, 2195, 2156, 2166, 9999, 2168, 9999, 2158, 2218, 2219, 2220, 2186, 2143, 2186, 2187, 2188, 2189, 2145, 2189, 2190, 2191, 2163, 2147, 2217, 2209, 2210, 2211, 2173, 2212, 2213, 2214, 2215, 9999, 9999, 2161, 2160, 2216]), (10, 2, 136, [1015, 2162, 2171, 2176, 2179, 2181, 2163, 2164, 1029, 1030, 2165, 2170, 2177, 2193, 2152, 2194, 2154, 2195, 2156, 2166, 9999, 2168, 9999, 2158, 4129, 4130, 4131, 2186, 2143, 2186, 2187, 2188, 2189, 2145, 2189, 2190, 2191, 2163, 2147, 4128, 4120, 4121, 4122, 2175, 4123, 4124, 4125, 4126, 9999, 9999, 2161, 2160, 4127]), (10, 3, 182, [1015, 2162, 2171, 2176, 2179, 2181, 2163, 2164, 1029, 1030, 2165, 2170, 2177, 2193, 2152, 2194, 2154, 2195, 2156, 2166, 9999, 2168, 9999, 2158, 4159, 4160, 4161, 2186, 2143, 2186, 2187, 2188, 2189, 2145, 2189, 2190, 2191, 2163, 2147, 4158, 4150, 4151, 4152, 2174, 4153, 4154, 4155, 4156, 9999, 9999, 2161, 2160, 4157])]
end
section
/-! Part 31: the tables of part 30 are what the Statement's words say: checks -/
def tb_seg (k : Nat) : List Cond := match k with
  | 0 => k2_sels lw_privs
  | 1 => tables_1_1
  | 2 => tables_1_2
  | 3 => tables_1_3
  | 4 => tables_1_4
  | 5 => tables_1_5
  | 6 => tables_1_6
  | _ => []
/-- words that stay true while the tables get warmer -/
def tb_gb (w : Cond) : Bool := match w with
  | .methodLinkNest _ _ _ _ => true
  | .arrayOver (.object _) => true
  | w => goodWord w || (w.onTables && w.keepsFace)
def tb_ws : List Cond := lw_tbl.filter tb_gb
def tb_at (p : Nat) (w : Cond) : Bool := decide ((tb_seg (p / 1000))[p % 1000]? = some w) && tb_gb w
theorem tb_seg_in {k : Nat} {w : Cond} (h : w ∈ tb_seg k) : w ∈ lw_tbl := by
  unfold lw_tbl tables_1
  match k, h with
  | 0, h => exact List.mem_append.mpr (Or.inl h)
  | 1, h => exact List.mem_append.mpr (Or.inr (List.mem_append.mpr (Or.inl h)))
  | 2, h => exact List.mem_append.mpr (Or.inr (List.mem_append.mpr (Or.inr (List.mem_append.mpr (Or.inl h)))))
  | 3, h => exact List.mem_append.mpr (Or.inr (List.mem_append.mpr (Or.inr (List.mem_append.mpr (Or.inr (List.mem_append.mpr (Or.inl h)))))))
  | 4, h => exact List.mem_append.mpr (Or.inr (List.mem_append.mpr (Or.inr (List.mem_append.mpr (Or.inr (List.mem_append.mpr (Or.inr (List.mem_append.mpr (Or.inl h)))))))))
  | 5, h => exact List.mem_append.mpr (Or.inr (List.mem_append.mpr (Or.inr (List.mem_append.mpr (Or.inr (List.mem_append.mpr (Or.inr (List.mem_append.mpr (Or.inr (List.mem_append.mpr (Or.inl h)))))))))))
  | 6, h => exact List.mem_append.mpr (Or.inr (List.mem_append.mpr (Or.inr (List.mem_append.mpr (Or.inr (List.mem_append.mpr (Or.inr (List.mem_append.mpr (Or.inr (List.mem_append.mpr (Or.inr h)))))))))))
  | _ + 7, h => cases h
theorem tb_mem {p : Nat} {w : Cond} (h : tb_at p w = true) : w ∈ tb_ws := by
  unfold tb_at at h
  rw [Bool.and_eq_true] at h
  exact List.mem_filter.mpr ⟨tb_seg_in (List.mem_of_getElem? (of_decide_eq_true h.1)), h.2⟩
theorem tb_gw {w : Cond} (h : w ∈ tb_ws) : am_gw w := by
  obtain ⟨-, h⟩ := List.mem_filter.mp h
  intro s U args a' hW hb
  unfold tb_gb at h
  split at h
  · exact (va_Nw.warmM hW (va_Nw.of rfl hb)).use rfl
  · exact va_AO.use (va_AO.moved hW.alike (va_AO.of hb))
  · rw [Bool.or_eq_true] at h
    rcases h with h | h
    · exact word_at hW (good_of_word h) hb
    · rw [Bool.and_eq_true] at h
      exact va_tabs h.1 (rfl : (s.setVm U.vm).vm = U.vm) (Cond.before_shiftedFace (State.Shifted.of_warmed hW) _ h.2 hb)
def tb_sp (k : Nat) : Nat := tb_SP.getD k 0
def tb_mp (j : Nat) : Nat × Nat × Nat × Nat := tb_MP.getD j (0, 0, 0, 0)
def tb_cp (ci : Nat) : Nat × Nat × List Nat := tb_CP.getD ci (0, 0, [])
def tb_up : List String := ["java/lang/RuntimeException", "java/lang/Exception"]
def tb_chk (o : Nat) (q : Nat × (Nat × Nat × Nat × Nat) × Nat) : Bool := match q.2.1 with
  | (1, ci, fi, 0) => decide (ci < 12) && tb_at q.2.2 (.fieldLink (tb_own o) q.1 (tb_own ci) (tb_T ci fi).2.1 (tb_T ci fi).2.2.1)
  | (2, j, 0, _) => decide (j < 180) && decide (am_hs (tb_mt j) = []) && decide (am_o (tb_mt j) < 12) && tb_at q.2.2 (.methodLink (tb_own o) q.1 (am_y (tb_mt j))) && tb_at (tb_mp j).2.2.1 (.instanceMethod (am_y (tb_mt j))) && tb_at (tb_mp j).2.2.2 (.selects (am_y (tb_mt j)).cls (am_y (tb_mt j)) (am_y (tb_mt j)))
  | (2, j, 1, _) => decide (j < 180) && tb_at q.2.2 (.methodLink (tb_own o) q.1 (am_y (tb_mt j))) && tb_at (tb_mp j).2.2.1 (.static (am_y (tb_mt j)))
  | (2, j, 4, _) => decide (j < 180) && tb_at q.2.2 (.methodLinkNest (tb_own o) q.1 (am_y (tb_mt j)) "AttributeLink") && tb_at (tb_mp j).2.2.1 (.static (am_y (tb_mt j)))
  | (2, j, 2, _) => decide (j < 180) && decide (am_hs (tb_mt j) = []) && decide (am_rt (tb_mt j) = none) && decide ((am_y (tb_mt j)).name = "<init>") && tb_at q.2.2 (.methodLink (tb_own o) q.1 (am_y (tb_mt j))) && tb_at (tb_mp j).2.2.1 (.instanceMethod (am_y (tb_mt j)))
  | (3, ci, t, _) => decide (ci < 12) && tb_at q.2.2 (.classLink (tb_own o) q.1 (tb_own ci)) && tb_at (tb_cp ci).1 (.instantiable (tb_own ci) (tb_nf ci)) && tb_at (tb_cp ci).2.1 (.initialized (tb_own ci)) && decide (t = 0 ∨ (t = 103 ∧ ci = 7) ∨ (t = 104 ∧ ci = 0))
  | (5, x, ic, _) => decide (x < 4) && tb_at q.2.2 (.classLink (tb_own o) q.1 (tb_xn x)) && Bundle.fit (tb_xn x) && decide (o = 10) && decide ((x = 0 ∧ ic = 69) ∨ (x = 1 ∧ ic = 76) ∨ (x = 2 ∧ ic = 136) ∨ (x = 3 ∧ ic = 182))
  | (7, _, _, _) => tb_at q.2.2 (.methodLink (tb_own o) q.1 Lib.objectInit)
  | (8, _, _, _) => tb_at q.2.2 (.methodLink (tb_own o) q.1 arraycopyName)
  | (9, x, _, _) => decide (x < 4) && decide (q.1 ≠ 0) && tb_at q.2.2 (.classLink (tb_own o) q.1 (tb_xn x))
  | (10, _, _, _) => tb_at q.2.2 (.methodLink (tb_own o) q.1 Lib.Math.min.name)
  | (11, _, _, _) => tb_at q.2.2 (.methodLink (tb_own o) q.1 Lib.Math.max.name)
  | _ => false
set_option maxRecDepth 100000 in
theorem tb_c0_0 : ((tb_PL0.drop 0).take 25).all (tb_chk 0) = true := by decide +kernel
set_option maxRecDepth 100000 in
theorem tb_c1_0 : ((tb_PL1.drop 0).take 25).all (tb_chk 1) = true := by decide +kernel
set_option maxRecDepth 100000 in
theorem tb_c2_0 : ((tb_PL2.drop 0).take 25).all (tb_chk 2) = true := by decide +kernel
set_option maxRecDepth 100000 in
theorem tb_c2_25 : ((tb_PL2.drop 25).take 25).all (tb_chk 2) = true := by decide +kernel
set_option maxRecDepth 100000 in
theorem tb_c3_0 : ((tb_PL3.drop 0).take 25).all (tb_chk 3) = true := by decide +kernel
set_option maxRecDepth 100000 in
theorem tb_c3_25 : ((tb_PL3.drop 25).take 25).all (tb_chk 3) = true := by decide +kernel
set_option maxRecDepth 100000 in
theorem tb_c4_0 : ((tb_PL4.drop 0).take 25).all (tb_chk 4) = true := by decide +kernel
set_option maxRecDepth 100000 in
theorem tb_c5_0 : ((tb_PL5.drop 0).take 25).all (tb_chk 5) = true := by decide +kernel
set_option maxRecDepth 100000 in
theorem tb_c6_0 : ((tb_PL6.drop 0).take 25).all (tb_chk 6) = true := by decide +kernel
set_option maxRecDepth 100000 in
theorem tb_c7_0 : ((tb_PL7.drop 0).take 25).all (tb_chk 7) = true := by decide +kernel
set_option maxRecDepth 100000 in
theorem tb_c8_0 : ((tb_PL8.drop 0).take 25).all (tb_chk 8) = true := by decide +kernel
set_option maxRecDepth 100000 in
theorem tb_c8_25 : ((tb_PL8.drop 25).take 25).all (tb_chk 8) = true := by decide +kernel
set_option maxRecDepth 100000 in
theorem tb_c9_0 : ((tb_PL9.drop 0).take 25).all (tb_chk 9) = true := by decide +kernel
set_option maxRecDepth 100000 in
theorem tb_c10_0 : ((tb_PL10.drop 0).take 25).all (tb_chk 10) = true := by decide +kernel
set_option maxRecDepth 100000 in
theorem tb_c10_25 : ((tb_PL10.drop 25).take 25).all (tb_chk 10) = true := by decide +kernel
set_option maxRecDepth 100000 in
theorem tb_c10_50 : ((tb_PL10.drop 50).take 25).all (tb_chk 10) = true := by decide +kernel
set_option maxRecDepth 100000 in
theorem tb_c11_0 : ((tb_PL11.drop 0).take 25).all (tb_chk 11) = true := by decide +kernel
set_option maxRecDepth 100000 in
theorem tb_c11_25 : ((tb_PL11.drop 25).take 25).all (tb_chk 11) = true := by decide +kernel
set_option maxRecDepth 100000 in
theorem tb_c11_50 : ((tb_PL11.drop 50).take 25).all (tb_chk 11) = true := by decide +kernel
set_option maxRecDepth 100000 in
theorem tb_c11_75 : ((tb_PL11.drop 75).take 25).all (tb_chk 11) = true := by decide +kernel
set_option maxRecDepth 100000 in
theorem tb_c12_0 : ((tb_PL12.drop 0).take 25).all (tb_chk 12) = true := by decide +kernel
set_option maxRecDepth 100000 in
theorem tb_c12_25 : ((tb_PL12.drop 25).take 25).all (tb_chk 12) = true := by decide +kernel
set_option maxRecDepth 100000 in
theorem tb_c12_50 : ((tb_PL12.drop 50).take 25).all (tb_chk 12) = true := by decide +kernel
end
section
/-! Part 32: methods: their words -/
theorem tb_mem2 {k i : Nat} {w : Cond} (h : (tb_seg k)[i]? = some w) (hg : tb_gb w = true) : w ∈ tb_ws := List.mem_filter.mpr ⟨tb_seg_in (List.mem_of_getElem? h), hg⟩
theorem tb_pn0 : plainName "AttributeLink$Attribute" = true := by decide +kernel
theorem tb_nm0 : "AttributeLink$Attribute" ≠ "java/lang/invoke/MethodHandle" ∧ "AttributeLink$Attribute" ≠ "java/lang/invoke/VarHandle" := by decide
theorem tb_ni0 : Cond.initialized "AttributeLink$Attribute" ∈ tb_ws := tb_mem (p := 1013) (by decide +kernel)
theorem tb_pn1 : plainName "AttributeLink$Channels" = true := by decide +kernel
theorem tb_nm1 : "AttributeLink$Channels" ≠ "java/lang/invoke/MethodHandle" ∧ "AttributeLink$Channels" ≠ "java/lang/invoke/VarHandle" := by decide
theorem tb_ni1 : Cond.initialized "AttributeLink$Channels" ∈ tb_ws := tb_mem (p := 1002) (by decide +kernel)
theorem tb_pn2 : plainName "AttributeLink$Client" = true := by decide +kernel
theorem tb_nm2 : "AttributeLink$Client" ≠ "java/lang/invoke/MethodHandle" ∧ "AttributeLink$Client" ≠ "java/lang/invoke/VarHandle" := by decide
theorem tb_ni2 : Cond.initialized "AttributeLink$Client" ∈ tb_ws := tb_mem (p := 1010) (by decide +kernel)
theorem tb_pn3 : plainName "AttributeLink$Device" = true := by decide +kernel
theorem tb_nm3 : "AttributeLink$Device" ≠ "java/lang/invoke/MethodHandle" ∧ "AttributeLink$Device" ≠ "java/lang/invoke/VarHandle" := by decide
theorem tb_ni3 : Cond.initialized "AttributeLink$Device" ∈ tb_ws := tb_mem (p := 1006) (by decide +kernel)
theorem tb_pn4 : plainName "AttributeLink$Inbox" = true := by decide +kernel
theorem tb_nm4 : "AttributeLink$Inbox" ≠ "java/lang/invoke/MethodHandle" ∧ "AttributeLink$Inbox" ≠ "java/lang/invoke/VarHandle" := by decide
theorem tb_ni4 : Cond.initialized "AttributeLink$Inbox" ∈ tb_ws := tb_mem (p := 1009) (by decide +kernel)
theorem tb_pn5 : plainName "AttributeLink$Notes" = true := by decide +kernel
theorem tb_nm5 : "AttributeLink$Notes" ≠ "java/lang/invoke/MethodHandle" ∧ "AttributeLink$Notes" ≠ "java/lang/invoke/VarHandle" := by decide
theorem tb_ni5 : Cond.initialized "AttributeLink$Notes" ∈ tb_ws := tb_mem (p := 1011) (by decide +kernel)
theorem tb_pn6 : plainName "AttributeLink$Outbox" = true := by decide +kernel
theorem tb_nm6 : "AttributeLink$Outbox" ≠ "java/lang/invoke/MethodHandle" ∧ "AttributeLink$Outbox" ≠ "java/lang/invoke/VarHandle" := by decide
theorem tb_ni6 : Cond.initialized "AttributeLink$Outbox" ∈ tb_ws := tb_mem (p := 1007) (by decide +kernel)
theorem tb_pn7 : plainName "AttributeLink$Row" = true := by decide +kernel
theorem tb_nm7 : "AttributeLink$Row" ≠ "java/lang/invoke/MethodHandle" ∧ "AttributeLink$Row" ≠ "java/lang/invoke/VarHandle" := by decide
theorem tb_ni7 : Cond.initialized "AttributeLink$Row" ∈ tb_ws := tb_mem (p := 1008) (by decide +kernel)
theorem tb_pn8 : plainName "AttributeLink$Server" = true := by decide +kernel
theorem tb_nm8 : "AttributeLink$Server" ≠ "java/lang/invoke/MethodHandle" ∧ "AttributeLink$Server" ≠ "java/lang/invoke/VarHandle" := by decide
theorem tb_ni8 : Cond.initialized "AttributeLink$Server" ∈ tb_ws := tb_mem (p := 1012) (by decide +kernel)
theorem tb_pn9 : plainName "AttributeLink$Whitening" = true := by decide +kernel
theorem tb_nm9 : "AttributeLink$Whitening" ≠ "java/lang/invoke/MethodHandle" ∧ "AttributeLink$Whitening" ≠ "java/lang/invoke/VarHandle" := by decide
theorem tb_ni9 : Cond.initialized "AttributeLink$Whitening" ∈ tb_ws := tb_mem (p := 1005) (by decide +kernel)
theorem tb_pn10 : plainName "AttributeLink" = true := by decide +kernel
theorem tb_nm10 : "AttributeLink" ≠ "java/lang/invoke/MethodHandle" ∧ "AttributeLink" ≠ "java/lang/invoke/VarHandle" := by decide
theorem tb_ni10 : Cond.initialized "AttributeLink" ∈ tb_ws := tb_mem (p := 1001) (by decide +kernel)
theorem tb_pn11 : plainName "AttributeLinkModel" = true := by decide +kernel
theorem tb_nm11 : "AttributeLinkModel" ≠ "java/lang/invoke/MethodHandle" ∧ "AttributeLinkModel" ≠ "java/lang/invoke/VarHandle" := by decide
theorem tb_ni11 : Cond.initialized "AttributeLinkModel" ∈ tb_ws := tb_mem (p := 1014) (by decide +kernel)
theorem tb_pn12 : plainName "AttributeLinkLaw" = true := by decide +kernel
theorem tb_nm12 : "AttributeLinkLaw" ≠ "java/lang/invoke/MethodHandle" ∧ "AttributeLinkLaw" ≠ "java/lang/invoke/VarHandle" := by decide
theorem tb_ni12 : Cond.initialized "AttributeLinkLaw" ∈ tb_ws := tb_mem (p := 1000) (by decide +kernel)
theorem tb_nm13 : "java/lang/Math" ≠ "java/lang/invoke/MethodHandle" ∧ "java/lang/Math" ≠ "java/lang/invoke/VarHandle" := by decide
theorem tb_ni13 : Cond.initialized "java/lang/Math" ∈ tb_ws := tb_mem (p := 1003) (by decide +kernel)
theorem tb_nm14 : "java/lang/Integer" ≠ "java/lang/invoke/MethodHandle" ∧ "java/lang/Integer" ≠ "java/lang/invoke/VarHandle" := by decide
theorem tb_ni14 : Cond.initialized "java/lang/Integer" ∈ tb_ws := tb_mem (p := 1004) (by decide +kernel)
theorem ok_Al_init : am_okm tb_G tb_own tb_ws 0 := ⟨plainFor_of_name tb_pn10, rfl, tb_nm10, by decide +kernel, by decide, tb_ni10, tb_mem2 (k := 1) (i := 27) (w := am_cw mt_Al_init) rfl rfl⟩
theorem ok_Ch_init : am_okm tb_G tb_own tb_ws 1 := ⟨plainFor_of_name tb_pn1, rfl, tb_nm1, by decide +kernel, by decide, tb_ni1, tb_mem2 (k := 1) (i := 35) (w := am_cw mt_Ch_init) rfl rfl⟩
theorem ok_Ma_floorMod : am_okm tb_G tb_own tb_ws 2 := ⟨by decide +kernel, rfl, tb_nm13, by decide +kernel, by decide, tb_ni13, tb_mem2 (k := 1) (i := 39) (w := am_cw mt_Ma_floorMod) rfl rfl⟩
theorem ok_Ch_countUsed : am_okm tb_G tb_own tb_ws 3 := ⟨plainFor_of_name tb_pn1, rfl, tb_nm1, by decide +kernel, by decide, tb_ni1, tb_mem2 (k := 1) (i := 42) (w := am_cw mt_Ch_countUsed) rfl rfl⟩
theorem ok_Ig_bitCount : am_okm tb_G tb_own tb_ws 4 := ⟨by decide +kernel, rfl, tb_nm14, by decide +kernel, by decide, tb_ni14, tb_mem2 (k := 1) (i := 45) (w := am_cw mt_Ig_bitCount) rfl rfl⟩
theorem ok_Ch_isMarked : am_okm tb_G tb_own tb_ws 5 := ⟨plainFor_of_name tb_pn1, rfl, tb_nm1, by decide +kernel, by decide, tb_ni1, tb_mem2 (k := 1) (i := 51) (w := am_cw mt_Ch_isMarked) rfl rfl⟩
theorem ok_Wh_init : am_okm tb_G tb_own tb_ws 6 := ⟨plainFor_of_name tb_pn9, rfl, tb_nm9, by decide +kernel, by decide, tb_ni9, tb_mem2 (k := 1) (i := 74) (w := am_cw mt_Wh_init) rfl rfl⟩
theorem ok_De_init : am_okm tb_G tb_own tb_ws 7 := ⟨plainFor_of_name tb_pn3, rfl, tb_nm3, by decide +kernel, by decide, tb_ni3, tb_mem2 (k := 1) (i := 84) (w := am_cw mt_De_init) rfl rfl⟩
theorem ok_Ou_init : am_okm tb_G tb_own tb_ws 8 := ⟨plainFor_of_name tb_pn6, rfl, tb_nm6, by decide +kernel, by decide, tb_ni6, tb_mem2 (k := 1) (i := 90) (w := am_cw mt_Ou_init) rfl rfl⟩
theorem ok_Ro_init : am_okm tb_G tb_own tb_ws 9 := ⟨plainFor_of_name tb_pn7, rfl, tb_nm7, by decide +kernel, by decide, tb_ni7, tb_mem2 (k := 1) (i := 97) (w := am_cw mt_Ro_init) rfl rfl⟩
theorem ok_In_init : am_okm tb_G tb_own tb_ws 10 := ⟨plainFor_of_name tb_pn4, rfl, tb_nm4, by decide +kernel, by decide, tb_ni4, tb_mem2 (k := 1) (i := 123) (w := am_cw mt_In_init) rfl rfl⟩
theorem ok_Cl_init : am_okm tb_G tb_own tb_ws 11 := ⟨plainFor_of_name tb_pn2, rfl, tb_nm2, by decide +kernel, by decide, tb_ni2, tb_mem2 (k := 1) (i := 181) (w := am_cw mt_Cl_init) rfl rfl⟩
theorem ok_No_init : am_okm tb_G tb_own tb_ws 12 := ⟨plainFor_of_name tb_pn5, rfl, tb_nm5, by decide +kernel, by decide, tb_ni5, tb_mem2 (k := 1) (i := 187) (w := am_cw mt_No_init) rfl rfl⟩
theorem ok_Ro_add : am_okm tb_G tb_own tb_ws 13 := ⟨plainFor_of_name tb_pn7, rfl, tb_nm7, by decide +kernel, by decide, tb_ni7, tb_mem2 (k := 1) (i := 206) (w := am_cw mt_Ro_add) rfl rfl⟩
theorem ok_Se_init : am_okm tb_G tb_own tb_ws 14 := ⟨plainFor_of_name tb_pn8, rfl, tb_nm8, by decide +kernel, by decide, tb_ni8, tb_mem2 (k := 2) (i := 13) (w := am_cw mt_Se_init) rfl rfl⟩
theorem ok_At_init : am_okm tb_G tb_own tb_ws 15 := ⟨plainFor_of_name tb_pn0, rfl, tb_nm0, by decide +kernel, by decide, tb_ni0, tb_mem2 (k := 2) (i := 20) (w := am_cw mt_At_init) rfl rfl⟩
theorem ok_Al_error : am_okm tb_G tb_own tb_ws 16 := ⟨plainFor_of_name tb_pn10, rfl, tb_nm10, by decide +kernel, by decide, tb_ni10, tb_mem2 (k := 2) (i := 93) (w := am_cw mt_Al_error) rfl rfl⟩
theorem ok_Cl_failure : am_okm tb_G tb_own tb_ws 17 := ⟨plainFor_of_name tb_pn2, rfl, tb_nm2, by decide +kernel, by decide, tb_ni2, tb_mem2 (k := 2) (i := 97) (w := am_cw mt_Cl_failure) rfl rfl⟩
theorem ok_Al_look : am_okm tb_G tb_own tb_ws 18 := ⟨plainFor_of_name tb_pn10, rfl, tb_nm10, by decide +kernel, by decide, tb_ni10, tb_mem2 (k := 2) (i := 101) (w := am_cw mt_Al_look) rfl rfl⟩
theorem ok_De_misses : am_okm tb_G tb_own tb_ws 19 := ⟨plainFor_of_name tb_pn3, rfl, tb_nm3, by decide +kernel, by decide, tb_ni3, tb_mem2 (k := 2) (i := 105) (w := am_cw mt_De_misses) rfl rfl⟩
theorem ok_Cl_limit : am_okm tb_G tb_own tb_ws 20 := ⟨plainFor_of_name tb_pn2, rfl, tb_nm2, by decide +kernel, by decide, tb_ni2, tb_mem2 (k := 2) (i := 109) (w := am_cw mt_Cl_limit) rfl rfl⟩
theorem ok_Se_limit : am_okm tb_G tb_own tb_ws 21 := ⟨plainFor_of_name tb_pn8, rfl, tb_nm8, by decide +kernel, by decide, tb_ni8, tb_mem2 (k := 2) (i := 113) (w := am_cw mt_Se_limit) rfl rfl⟩
theorem ok_Se_keptParts : am_okm tb_G tb_own tb_ws 22 := ⟨plainFor_of_name tb_pn8, rfl, tb_nm8, by decide +kernel, by decide, tb_ni8, tb_mem2 (k := 2) (i := 117) (w := am_cw mt_Se_keptParts) rfl rfl⟩
theorem ok_Se_isUnconfirmed : am_okm tb_G tb_own tb_ws 23 := ⟨plainFor_of_name tb_pn8, rfl, tb_nm8, by decide +kernel, by decide, tb_ni8, tb_mem2 (k := 2) (i := 121) (w := am_cw mt_Se_isUnconfirmed) rfl rfl⟩
theorem ok_La_cell : am_okm tb_G tb_own tb_ws 24 := ⟨plainFor_of_name tb_pn12, rfl, tb_nm12, by decide +kernel, by decide, tb_ni12, tb_mem2 (k := 2) (i := 124) (w := am_cw mt_La_cell) rfl rfl⟩
theorem ok_La_attribute : am_okm tb_G tb_own tb_ws 25 := ⟨plainFor_of_name tb_pn12, rfl, tb_nm12, by decide +kernel, by decide, tb_ni12, tb_mem2 (k := 2) (i := 127) (w := am_cw mt_La_attribute) rfl rfl⟩
theorem ok_Al_attribute : am_okm tb_G tb_own tb_ws 26 := ⟨plainFor_of_name tb_pn10, rfl, tb_nm10, by decide +kernel, by decide, tb_ni10, tb_mem2 (k := 2) (i := 133) (w := am_cw mt_Al_attribute) rfl rfl⟩
theorem ok_Al_isByte : am_okm tb_G tb_own tb_ws 27 := ⟨plainFor_of_name tb_pn10, rfl, tb_nm10, by decide +kernel, by decide, tb_ni10, tb_mem2 (k := 2) (i := 136) (w := am_cw mt_Al_isByte) rfl rfl⟩
theorem ok_Al_isNumberSize : am_okm tb_G tb_own tb_ws 28 := ⟨plainFor_of_name tb_pn10, rfl, tb_nm10, by decide +kernel, by decide, tb_ni10, tb_mem2 (k := 2) (i := 139) (w := am_cw mt_Al_isNumberSize) rfl rfl⟩
theorem ok_Se_isFull : am_okm tb_G tb_own tb_ws 29 := ⟨plainFor_of_name tb_pn8, rfl, tb_nm8, by decide +kernel, by decide, tb_ni8, tb_mem2 (k := 2) (i := 207) (w := am_cw mt_Se_isFull) rfl rfl⟩
theorem ok_Se_addAttribute : am_okm tb_G tb_own tb_ws 30 := ⟨plainFor_of_name tb_pn8, rfl, tb_nm8, by decide +kernel, by decide, tb_ni8, tb_mem2 (k := 2) (i := 226) (w := am_cw mt_Se_addAttribute) rfl rfl⟩
theorem ok_At_become : am_okm tb_G tb_own tb_ws 31 := ⟨plainFor_of_name tb_pn0, rfl, tb_nm0, by decide +kernel, by decide, tb_ni0, tb_mem2 (k := 2) (i := 230) (w := am_cw mt_At_become) rfl rfl⟩
theorem ok_Ro_addNumber : am_okm tb_G tb_own tb_ws 32 := ⟨plainFor_of_name tb_pn7, rfl, tb_nm7, by decide +kernel, by decide, tb_ni7, tb_mem2 (k := 2) (i := 234) (w := am_cw mt_Ro_addNumber) rfl rfl⟩
theorem ok_La_put : am_okm tb_G tb_own tb_ws 33 := ⟨plainFor_of_name tb_pn12, rfl, tb_nm12, by decide +kernel, by decide, tb_ni12, tb_mem2 (k := 2) (i := 238) (w := am_cw mt_La_put) rfl rfl⟩
theorem ok_Al_put : am_okm tb_G tb_own tb_ws 34 := ⟨plainFor_of_name tb_pn10, rfl, tb_nm10, by decide +kernel, by decide, tb_ni10, tb_mem2 (k := 3) (i := 2) (w := am_cw mt_Al_put) rfl rfl⟩
theorem ok_Se_hasHandle : am_okm tb_G tb_own tb_ws 35 := ⟨plainFor_of_name tb_pn8, rfl, tb_nm8, by decide +kernel, by decide, tb_ni8, tb_mem2 (k := 3) (i := 6) (w := am_cw mt_Se_hasHandle) rfl rfl⟩
theorem ok_Se_valueOf : am_okm tb_G tb_own tb_ws 36 := ⟨plainFor_of_name tb_pn8, rfl, tb_nm8, by decide +kernel, by decide, tb_ni8, tb_mem2 (k := 3) (i := 10) (w := am_cw mt_Se_valueOf) rfl rfl⟩
theorem ok_Ro_length : am_okm tb_G tb_own tb_ws 37 := ⟨plainFor_of_name tb_pn7, rfl, tb_nm7, by decide +kernel, by decide, tb_ni7, tb_mem2 (k := 3) (i := 14) (w := am_cw mt_Ro_length) rfl rfl⟩
theorem ok_Ro_clear : am_okm tb_G tb_own tb_ws 38 := ⟨plainFor_of_name tb_pn7, rfl, tb_nm7, by decide +kernel, by decide, tb_ni7, tb_mem2 (k := 3) (i := 18) (w := am_cw mt_Ro_clear) rfl rfl⟩
theorem ok_La_tell : am_okm tb_G tb_own tb_ws 39 := ⟨plainFor_of_name tb_pn12, rfl, tb_nm12, by decide +kernel, by decide, tb_ni12, tb_mem2 (k := 3) (i := 22) (w := am_cw mt_La_tell) rfl rfl⟩
theorem ok_Al_tell : am_okm tb_G tb_own tb_ws 40 := ⟨plainFor_of_name tb_pn10, rfl, tb_nm10, by decide +kernel, by decide, tb_ni10, tb_mem2 (k := 3) (i := 26) (w := am_cw mt_Al_tell) rfl rfl⟩
theorem ok_Ou_waiting : am_okm tb_G tb_own tb_ws 41 := ⟨plainFor_of_name tb_pn6, rfl, tb_nm6, by decide +kernel, by decide, tb_ni6, tb_mem2 (k := 3) (i := 30) (w := am_cw mt_Ou_waiting) rfl rfl⟩
theorem ok_Se_sayByItself : am_okm tb_G tb_own tb_ws 42 := ⟨plainFor_of_name tb_pn8, rfl, tb_nm8, by decide +kernel, by decide, tb_ni8, tb_mem2 (k := 3) (i := 34) (w := am_cw mt_Se_sayByItself) rfl rfl⟩
theorem ok_Ro_addFrom : am_okm tb_G tb_own tb_ws 43 := ⟨plainFor_of_name tb_pn7, rfl, tb_nm7, by decide +kernel, by decide, tb_ni7, tb_mem2 (k := 3) (i := 41) (w := am_cw mt_Ro_addFrom) rfl rfl⟩
theorem ok_Ou_give : am_okm tb_G tb_own tb_ws 44 := ⟨plainFor_of_name tb_pn6, rfl, tb_nm6, by decide +kernel, by decide, tb_ni6, tb_mem2 (k := 3) (i := 51) (w := am_cw mt_Ou_give) rfl rfl⟩
theorem ok_La_begin : am_okm tb_G tb_own tb_ws 45 := ⟨plainFor_of_name tb_pn12, rfl, tb_nm12, by decide +kernel, by decide, tb_ni12, tb_mem2 (k := 3) (i := 58) (w := am_cw mt_La_begin) rfl rfl⟩
theorem ok_Al_begin : am_okm tb_G tb_own tb_ws 46 := ⟨plainFor_of_name tb_pn10, rfl, tb_nm10, by decide +kernel, by decide, tb_ni10, tb_mem2 (k := 3) (i := 62) (w := am_cw mt_Al_begin) rfl rfl⟩
theorem ok_Al_requireIdleClient : am_okm tb_G tb_own tb_ws 47 := ⟨plainFor_of_name tb_pn10, rfl, tb_nm10, by decide +kernel, by decide, tb_ni10, tb_mem2 (k := 3) (i := 66) (w := am_cw mt_Al_requireIdleClient) rfl rfl⟩
theorem ok_Cl_mayStart : am_okm tb_G tb_own tb_ws 48 := ⟨plainFor_of_name tb_pn2, rfl, tb_nm2, by decide +kernel, by decide, tb_ni2, tb_mem2 (k := 3) (i := 70) (w := am_cw mt_Cl_mayStart) rfl rfl⟩
theorem ok_Cl_start : am_okm tb_G tb_own tb_ws 49 := ⟨plainFor_of_name tb_pn2, rfl, tb_nm2, by decide +kernel, by decide, tb_ni2, tb_mem2 (k := 3) (i := 74) (w := am_cw mt_Cl_start) rfl rfl⟩
theorem ok_Cl_composeFirst : am_okm tb_G tb_own tb_ws 50 := ⟨plainFor_of_name tb_pn2, rfl, tb_nm2, by decide +kernel, by decide, tb_ni2, tb_mem2 (k := 3) (i := 80) (w := am_cw mt_Cl_composeFirst) rfl rfl⟩
theorem ok_Cl_compose : am_okm tb_G tb_own tb_ws 51 := ⟨plainFor_of_name tb_pn2, rfl, tb_nm2, by decide +kernel, by decide, tb_ni2, tb_mem2 (k := 3) (i := 84) (w := am_cw mt_Cl_compose) rfl rfl⟩
theorem ok_Cl_composeFind : am_okm tb_G tb_own tb_ws 52 := ⟨plainFor_of_name tb_pn2, rfl, tb_nm2, by decide +kernel, by decide, tb_ni2, tb_mem2 (k := 3) (i := 88) (w := am_cw mt_Cl_composeFind) rfl rfl⟩
theorem ok_Cl_composePart : am_okm tb_G tb_own tb_ws 53 := ⟨plainFor_of_name tb_pn2, rfl, tb_nm2, by decide +kernel, by decide, tb_ni2, tb_mem2 (k := 3) (i := 93) (w := am_cw mt_Cl_composePart) rfl rfl⟩
theorem ok_Cl_ask : am_okm tb_G tb_own tb_ws 54 := ⟨plainFor_of_name tb_pn2, rfl, tb_nm2, by decide +kernel, by decide, tb_ni2, tb_mem2 (k := 3) (i := 97) (w := am_cw mt_Cl_ask) rfl rfl⟩
theorem ok_La_write : am_okm tb_G tb_own tb_ws 55 := ⟨plainFor_of_name tb_pn12, rfl, tb_nm12, by decide +kernel, by decide, tb_ni12, tb_mem2 (k := 3) (i := 101) (w := am_cw mt_La_write) rfl rfl⟩
theorem ok_Al_write : am_okm tb_G tb_own tb_ws 56 := ⟨plainFor_of_name tb_pn10, rfl, tb_nm10, by decide +kernel, by decide, tb_ni10, tb_mem2 (k := 3) (i := 105) (w := am_cw mt_Al_write) rfl rfl⟩
theorem ok_La_raw : am_okm tb_G tb_own tb_ws 57 := ⟨plainFor_of_name tb_pn12, rfl, tb_nm12, by decide +kernel, by decide, tb_ni12, tb_mem2 (k := 3) (i := 108) (w := am_cw mt_La_raw) rfl rfl⟩
theorem ok_Al_raw : am_okm tb_G tb_own tb_ws 58 := ⟨plainFor_of_name tb_pn10, rfl, tb_nm10, by decide +kernel, by decide, tb_ni10, tb_mem2 (k := 3) (i := 112) (w := am_cw mt_Al_raw) rfl rfl⟩
theorem ok_La_event : am_okm tb_G tb_own tb_ws 59 := ⟨plainFor_of_name tb_pn12, rfl, tb_nm12, by decide +kernel, by decide, tb_ni12, tb_mem2 (k := 3) (i := 115) (w := am_cw mt_La_event) rfl rfl⟩
theorem ok_Al_event : am_okm tb_G tb_own tb_ws 60 := ⟨plainFor_of_name tb_pn10, rfl, tb_nm10, by decide +kernel, by decide, tb_ni10, tb_mem2 (k := 3) (i := 119) (w := am_cw mt_Al_event) rfl rfl⟩
theorem ok_Al_exchange : am_okm tb_G tb_own tb_ws 61 := ⟨plainFor_of_name tb_pn10, rfl, tb_nm10, by decide +kernel, by decide, tb_ni10, tb_mem2 (k := 3) (i := 123) (w := am_cw mt_Al_exchange) rfl rfl⟩
theorem ok_Ch_advance : am_okm tb_G tb_own tb_ws 62 := ⟨plainFor_of_name tb_pn1, rfl, tb_nm1, by decide +kernel, by decide, tb_ni1, tb_mem2 (k := 3) (i := 127) (w := am_cw mt_Ch_advance) rfl rfl⟩
theorem ok_Wh_tune : am_okm tb_G tb_own tb_ws 63 := ⟨plainFor_of_name tb_pn9, rfl, tb_nm9, by decide +kernel, by decide, tb_ni9, tb_mem2 (k := 3) (i := 131) (w := am_cw mt_Wh_tune) rfl rfl⟩
theorem ok_De_send : am_okm tb_G tb_own tb_ws 64 := ⟨plainFor_of_name tb_pn3, rfl, tb_nm3, by decide +kernel, by decide, tb_ni3, tb_mem2 (k := 3) (i := 135) (w := am_cw mt_De_send) rfl rfl⟩
theorem ok_Ou_takePiece : am_okm tb_G tb_own tb_ws 65 := ⟨plainFor_of_name tb_pn6, rfl, tb_nm6, by decide +kernel, by decide, tb_ni6, tb_mem2 (k := 3) (i := 139) (w := am_cw mt_Ou_takePiece) rfl rfl⟩
theorem ok_De_checkOf : am_okm tb_G tb_own tb_ws 66 := ⟨plainFor_of_name tb_pn3, rfl, tb_nm3, by decide +kernel, by decide, tb_ni3, tb_mem2 (k := 3) (i := 146) (w := am_cw mt_De_checkOf) rfl rfl⟩
theorem ok_Ro_at : am_okm tb_G tb_own tb_ws 67 := ⟨plainFor_of_name tb_pn7, rfl, tb_nm7, by decide +kernel, by decide, tb_ni7, tb_mem2 (k := 3) (i := 151) (w := am_cw mt_Ro_at) rfl rfl⟩
theorem ok_Wh_turnOver : am_okm tb_G tb_own tb_ws 68 := ⟨plainFor_of_name tb_pn9, rfl, tb_nm9, by decide +kernel, by decide, tb_ni9, tb_mem2 (k := 3) (i := 157) (w := am_cw mt_Wh_turnOver) rfl rfl⟩
theorem ok_De_hear : am_okm tb_G tb_own tb_ws 69 := ⟨plainFor_of_name tb_pn3, rfl, tb_nm3, by decide +kernel, by decide, tb_ni3, tb_mem2 (k := 3) (i := 161) (w := am_cw mt_De_hear) rfl rfl⟩
theorem ok_In_forgetDone : am_okm tb_G tb_own tb_ws 70 := ⟨plainFor_of_name tb_pn4, rfl, tb_nm4, by decide +kernel, by decide, tb_ni4, tb_mem2 (k := 3) (i := 165) (w := am_cw mt_In_forgetDone) rfl rfl⟩
theorem ok_De_spoilAt : am_okm tb_G tb_own tb_ws 71 := ⟨plainFor_of_name tb_pn3, rfl, tb_nm3, by decide +kernel, by decide, tb_ni3, tb_mem2 (k := 3) (i := 168) (w := am_cw mt_De_spoilAt) rfl rfl⟩
theorem ok_De_isGood : am_okm tb_G tb_own tb_ws 72 := ⟨plainFor_of_name tb_pn3, rfl, tb_nm3, by decide +kernel, by decide, tb_ni3, tb_mem2 (k := 3) (i := 172) (w := am_cw mt_De_isGood) rfl rfl⟩
theorem ok_De_accept : am_okm tb_G tb_own tb_ws 73 := ⟨plainFor_of_name tb_pn3, rfl, tb_nm3, by decide +kernel, by decide, tb_ni3, tb_mem2 (k := 3) (i := 176) (w := am_cw mt_De_accept) rfl rfl⟩
theorem ok_In_take : am_okm tb_G tb_own tb_ws 74 := ⟨plainFor_of_name tb_pn4, rfl, tb_nm4, by decide +kernel, by decide, tb_ni4, tb_mem2 (k := 3) (i := 180) (w := am_cw mt_In_take) rfl rfl⟩
theorem ok_In_isSound : am_okm tb_G tb_own tb_ws 75 := ⟨plainFor_of_name tb_pn4, rfl, tb_nm4, by decide +kernel, by decide, tb_ni4, tb_mem2 (k := 3) (i := 187) (w := am_cw mt_In_isSound) rfl rfl⟩
theorem ok_In_isDone : am_okm tb_G tb_own tb_ws 76 := ⟨plainFor_of_name tb_pn4, rfl, tb_nm4, by decide +kernel, by decide, tb_ni4, tb_mem2 (k := 3) (i := 192) (w := am_cw mt_In_isDone) rfl rfl⟩
theorem ok_Se_serve : am_okm tb_G tb_own tb_ws 77 := ⟨plainFor_of_name tb_pn8, rfl, tb_nm8, by decide +kernel, by decide, tb_ni8, tb_mem2 (k := 3) (i := 196) (w := am_cw mt_Se_serve) rfl rfl⟩
theorem ok_Se_shapeError : am_okm tb_G tb_own tb_ws 78 := ⟨plainFor_of_name tb_pn8, rfl, tb_nm8, by decide +kernel, by decide, tb_ni8, tb_mem2 (k := 3) (i := 201) (w := am_cw mt_Se_shapeError) rfl rfl⟩
theorem ok_Se_answerTo : am_okm tb_G tb_own tb_ws 79 := ⟨plainFor_of_name tb_pn8, rfl, tb_nm8, by decide +kernel, by decide, tb_ni8, tb_mem2 (k := 3) (i := 205) (w := am_cw mt_Se_answerTo) rfl rfl⟩
theorem ok_Al_boundedLimit : am_okm tb_G tb_own tb_ws 80 := ⟨plainFor_of_name tb_pn10, rfl, tb_nm10, by decide +kernel, by decide, tb_ni10, tb_mem2 (k := 3) (i := 208) (w := am_cw mt_Al_boundedLimit) rfl rfl⟩
theorem ok_Se_answerFind : am_okm tb_G tb_own tb_ws 81 := ⟨plainFor_of_name tb_pn8, rfl, tb_nm8, by decide +kernel, by decide, tb_ni8, tb_mem2 (k := 3) (i := 216) (w := am_cw mt_Se_answerFind) rfl rfl⟩
theorem ok_At_isOfType : am_okm tb_G tb_own tb_ws 82 := ⟨plainFor_of_name tb_pn0, rfl, tb_nm0, by decide +kernel, by decide, tb_ni0, tb_mem2 (k := 3) (i := 221) (w := am_cw mt_At_isOfType) rfl rfl⟩
theorem ok_Se_answerEnd : am_okm tb_G tb_own tb_ws 83 := ⟨plainFor_of_name tb_pn8, rfl, tb_nm8, by decide +kernel, by decide, tb_ni8, tb_mem2 (k := 3) (i := 225) (w := am_cw mt_Se_answerEnd) rfl rfl⟩
theorem ok_Se_planParts : am_okm tb_G tb_own tb_ws 84 := ⟨plainFor_of_name tb_pn8, rfl, tb_nm8, by decide +kernel, by decide, tb_ni8, tb_mem2 (k := 3) (i := 229) (w := am_cw mt_Se_planParts) rfl rfl⟩
theorem ok_Ro_overlay : am_okm tb_G tb_own tb_ws 85 := ⟨plainFor_of_name tb_pn7, rfl, tb_nm7, by decide +kernel, by decide, tb_ni7, tb_mem2 (k := 3) (i := 233) (w := am_cw mt_Ro_overlay) rfl rfl⟩
theorem ok_Se_answerAccess : am_okm tb_G tb_own tb_ws 86 := ⟨plainFor_of_name tb_pn8, rfl, tb_nm8, by decide +kernel, by decide, tb_ni8, tb_mem2 (k := 3) (i := 238) (w := am_cw mt_Se_answerAccess) rfl rfl⟩
theorem ok_At_isReadable : am_okm tb_G tb_own tb_ws 87 := ⟨plainFor_of_name tb_pn0, rfl, tb_nm0, by decide +kernel, by decide, tb_ni0, tb_mem2 (k := 4) (i := 3) (w := am_cw mt_At_isReadable) rfl rfl⟩
theorem ok_Se_answerRead : am_okm tb_G tb_own tb_ws 88 := ⟨plainFor_of_name tb_pn8, rfl, tb_nm8, by decide +kernel, by decide, tb_ni8, tb_mem2 (k := 4) (i := 7) (w := am_cw mt_Se_answerRead) rfl rfl⟩
theorem ok_At_isWritable : am_okm tb_G tb_own tb_ws 89 := ⟨plainFor_of_name tb_pn0, rfl, tb_nm0, by decide +kernel, by decide, tb_ni0, tb_mem2 (k := 4) (i := 11) (w := am_cw mt_At_isWritable) rfl rfl⟩
theorem ok_Se_answerWrite : am_okm tb_G tb_own tb_ws 90 := ⟨plainFor_of_name tb_pn8, rfl, tb_nm8, by decide +kernel, by decide, tb_ni8, tb_mem2 (k := 4) (i := 15) (w := am_cw mt_Se_answerWrite) rfl rfl⟩
theorem ok_Se_answerPart : am_okm tb_G tb_own tb_ws 91 := ⟨plainFor_of_name tb_pn8, rfl, tb_nm8, by decide +kernel, by decide, tb_ni8, tb_mem2 (k := 4) (i := 19) (w := am_cw mt_Se_answerPart) rfl rfl⟩
theorem ok_Se_answerError : am_okm tb_G tb_own tb_ws 92 := ⟨plainFor_of_name tb_pn8, rfl, tb_nm8, by decide +kernel, by decide, tb_ni8, tb_mem2 (k := 4) (i := 23) (w := am_cw mt_Se_answerError) rfl rfl⟩
theorem ok_Cl_listen : am_okm tb_G tb_own tb_ws 93 := ⟨plainFor_of_name tb_pn2, rfl, tb_nm2, by decide +kernel, by decide, tb_ni2, tb_mem2 (k := 4) (i := 27) (w := am_cw mt_Cl_listen) rfl rfl⟩
theorem ok_Cl_keepNote : am_okm tb_G tb_own tb_ws 94 := ⟨plainFor_of_name tb_pn2, rfl, tb_nm2, by decide +kernel, by decide, tb_ni2, tb_mem2 (k := 4) (i := 32) (w := am_cw mt_Cl_keepNote) rfl rfl⟩
theorem ok_No_keep : am_okm tb_G tb_own tb_ws 95 := ⟨plainFor_of_name tb_pn5, rfl, tb_nm5, by decide +kernel, by decide, tb_ni5, tb_mem2 (k := 4) (i := 37) (w := am_cw mt_No_keep) rfl rfl⟩
theorem ok_Cl_endsWith : am_okm tb_G tb_own tb_ws 96 := ⟨plainFor_of_name tb_pn2, rfl, tb_nm2, by decide +kernel, by decide, tb_ni2, tb_mem2 (k := 4) (i := 44) (w := am_cw mt_Cl_endsWith) rfl rfl⟩
theorem ok_Cl_succeed : am_okm tb_G tb_own tb_ws 97 := ⟨plainFor_of_name tb_pn2, rfl, tb_nm2, by decide +kernel, by decide, tb_ni2, tb_mem2 (k := 4) (i := 48) (w := am_cw mt_Cl_succeed) rfl rfl⟩
theorem ok_Cl_fail : am_okm tb_G tb_own tb_ws 98 := ⟨plainFor_of_name tb_pn2, rfl, tb_nm2, by decide +kernel, by decide, tb_ni2, tb_mem2 (k := 4) (i := 52) (w := am_cw mt_Cl_fail) rfl rfl⟩
theorem ok_Cl_takeError : am_okm tb_G tb_own tb_ws 99 := ⟨plainFor_of_name tb_pn2, rfl, tb_nm2, by decide +kernel, by decide, tb_ni2, tb_mem2 (k := 4) (i := 56) (w := am_cw mt_Cl_takeError) rfl rfl⟩
theorem ok_Cl_neededBytes : am_okm tb_G tb_own tb_ws 100 := ⟨plainFor_of_name tb_pn2, rfl, tb_nm2, by decide +kernel, by decide, tb_ni2, tb_mem2 (k := 4) (i := 60) (w := am_cw mt_Cl_neededBytes) rfl rfl⟩
theorem ok_Cl_goOn : am_okm tb_G tb_own tb_ws 101 := ⟨plainFor_of_name tb_pn2, rfl, tb_nm2, by decide +kernel, by decide, tb_ni2, tb_mem2 (k := 4) (i := 64) (w := am_cw mt_Cl_goOn) rfl rfl⟩
theorem ok_Cl_goOnReading : am_okm tb_G tb_own tb_ws 102 := ⟨plainFor_of_name tb_pn2, rfl, tb_nm2, by decide +kernel, by decide, tb_ni2, tb_mem2 (k := 4) (i := 70) (w := am_cw mt_Cl_goOnReading) rfl rfl⟩
theorem ok_Ro_cut : am_okm tb_G tb_own tb_ws 103 := ⟨plainFor_of_name tb_pn7, rfl, tb_nm7, by decide +kernel, by decide, tb_ni7, tb_mem2 (k := 4) (i := 74) (w := am_cw mt_Ro_cut) rfl rfl⟩
theorem ok_Cl_goOnFinding : am_okm tb_G tb_own tb_ws 104 := ⟨plainFor_of_name tb_pn2, rfl, tb_nm2, by decide +kernel, by decide, tb_ni2, tb_mem2 (k := 4) (i := 78) (w := am_cw mt_Cl_goOnFinding) rfl rfl⟩
theorem ok_Cl_goOnWriting : am_okm tb_G tb_own tb_ws 105 := ⟨plainFor_of_name tb_pn2, rfl, tb_nm2, by decide +kernel, by decide, tb_ni2, tb_mem2 (k := 4) (i := 82) (w := am_cw mt_Cl_goOnWriting) rfl rfl⟩
theorem ok_Ro_isSameFrom : am_okm tb_G tb_own tb_ws 106 := ⟨plainFor_of_name tb_pn7, rfl, tb_nm7, by decide +kernel, by decide, tb_ni7, tb_mem2 (k := 4) (i := 86) (w := am_cw mt_Ro_isSameFrom) rfl rfl⟩
theorem ok_Al_finish : am_okm tb_G tb_own tb_ws 107 := ⟨plainFor_of_name tb_pn10, rfl, tb_nm10, by decide +kernel, by decide, tb_ni10, tb_mem2 (k := 4) (i := 91) (w := am_cw mt_Al_finish) rfl rfl⟩
theorem ok_De_countMiss : am_okm tb_G tb_own tb_ws 108 := ⟨plainFor_of_name tb_pn3, rfl, tb_nm3, by decide +kernel, by decide, tb_ni3, tb_mem2 (k := 4) (i := 95) (w := am_cw mt_De_countMiss) rfl rfl⟩
theorem ok_Cl_endEvent : am_okm tb_G tb_own tb_ws 109 := ⟨plainFor_of_name tb_pn2, rfl, tb_nm2, by decide +kernel, by decide, tb_ni2, tb_mem2 (k := 4) (i := 99) (w := am_cw mt_Cl_endEvent) rfl rfl⟩
theorem ok_La_run : am_okm tb_G tb_own tb_ws 110 := ⟨plainFor_of_name tb_pn12, rfl, tb_nm12, by decide +kernel, by decide, tb_ni12, tb_mem2 (k := 4) (i := 102) (w := am_cw mt_La_run) rfl rfl⟩
theorem ok_Al_run : am_okm tb_G tb_own tb_ws 111 := ⟨plainFor_of_name tb_pn10, rfl, tb_nm10, by decide +kernel, by decide, tb_ni10, tb_mem2 (k := 4) (i := 106) (w := am_cw mt_Al_run) rfl rfl⟩
theorem ok_La_outcome : am_okm tb_G tb_own tb_ws 112 := ⟨plainFor_of_name tb_pn12, rfl, tb_nm12, by decide +kernel, by decide, tb_ni12, tb_mem2 (k := 4) (i := 109) (w := am_cw mt_La_outcome) rfl rfl⟩
theorem ok_Al_outcome : am_okm tb_G tb_own tb_ws 113 := ⟨plainFor_of_name tb_pn10, rfl, tb_nm10, by decide +kernel, by decide, tb_ni10, tb_mem2 (k := 4) (i := 114) (w := am_cw mt_Al_outcome) rfl rfl⟩
theorem ok_Cl_state : am_okm tb_G tb_own tb_ws 114 := ⟨plainFor_of_name tb_pn2, rfl, tb_nm2, by decide +kernel, by decide, tb_ni2, tb_mem2 (k := 4) (i := 118) (w := am_cw mt_Cl_state) rfl rfl⟩
theorem ok_La_data : am_okm tb_G tb_own tb_ws 115 := ⟨plainFor_of_name tb_pn12, rfl, tb_nm12, by decide +kernel, by decide, tb_ni12, tb_mem2 (k := 4) (i := 136) (w := am_cw mt_La_data) rfl rfl⟩
theorem ok_Al_data : am_okm tb_G tb_own tb_ws 116 := ⟨plainFor_of_name tb_pn10, rfl, tb_nm10, by decide +kernel, by decide, tb_ni10, tb_mem2 (k := 4) (i := 141) (w := am_cw mt_Al_data) rfl rfl⟩
theorem ok_Al_byteOrLength : am_okm tb_G tb_own tb_ws 117 := ⟨plainFor_of_name tb_pn10, rfl, tb_nm10, by decide +kernel, by decide, tb_ni10, tb_mem2 (k := 4) (i := 144) (w := am_cw mt_Al_byteOrLength) rfl rfl⟩
theorem ok_Ro_has : am_okm tb_G tb_own tb_ws 118 := ⟨plainFor_of_name tb_pn7, rfl, tb_nm7, by decide +kernel, by decide, tb_ni7, tb_mem2 (k := 4) (i := 148) (w := am_cw mt_Ro_has) rfl rfl⟩
theorem ok_La_note : am_okm tb_G tb_own tb_ws 119 := ⟨plainFor_of_name tb_pn12, rfl, tb_nm12, by decide +kernel, by decide, tb_ni12, tb_mem2 (k := 4) (i := 167) (w := am_cw mt_La_note) rfl rfl⟩
theorem ok_Al_note : am_okm tb_G tb_own tb_ws 120 := ⟨plainFor_of_name tb_pn10, rfl, tb_nm10, by decide +kernel, by decide, tb_ni10, tb_mem2 (k := 4) (i := 171) (w := am_cw mt_Al_note) rfl rfl⟩
theorem ok_No_has : am_okm tb_G tb_own tb_ws 121 := ⟨plainFor_of_name tb_pn5, rfl, tb_nm5, by decide +kernel, by decide, tb_ni5, tb_mem2 (k := 4) (i := 175) (w := am_cw mt_No_has) rfl rfl⟩
theorem ok_No_latest : am_okm tb_G tb_own tb_ws 122 := ⟨plainFor_of_name tb_pn5, rfl, tb_nm5, by decide +kernel, by decide, tb_ni5, tb_mem2 (k := 4) (i := 179) (w := am_cw mt_No_latest) rfl rfl⟩
theorem ok_La_value : am_okm tb_G tb_own tb_ws 123 := ⟨plainFor_of_name tb_pn12, rfl, tb_nm12, by decide +kernel, by decide, tb_ni12, tb_mem2 (k := 4) (i := 183) (w := am_cw mt_La_value) rfl rfl⟩
theorem ok_Al_value : am_okm tb_G tb_own tb_ws 124 := ⟨plainFor_of_name tb_pn10, rfl, tb_nm10, by decide +kernel, by decide, tb_ni10, tb_mem2 (k := 4) (i := 187) (w := am_cw mt_Al_value) rfl rfl⟩
theorem ok_La_air : am_okm tb_G tb_own tb_ws 125 := ⟨plainFor_of_name tb_pn12, rfl, tb_nm12, by decide +kernel, by decide, tb_ni12, tb_mem2 (k := 4) (i := 190) (w := am_cw mt_La_air) rfl rfl⟩
theorem ok_Al_air : am_okm tb_G tb_own tb_ws 126 := ⟨plainFor_of_name tb_pn10, rfl, tb_nm10, by decide +kernel, by decide, tb_ni10, tb_mem2 (k := 4) (i := 194) (w := am_cw mt_Al_air) rfl rfl⟩
theorem ok_Mo_init : am_okm tb_G tb_own tb_ws 127 := ⟨plainFor_of_name tb_pn11, rfl, tb_nm11, by decide +kernel, by decide, tb_ni11, tb_mem2 (k := 4) (i := 199) (w := am_cw mt_Mo_init) rfl rfl⟩
theorem ok_Mo_thrown : am_okm tb_G tb_own tb_ws 128 := ⟨plainFor_of_name tb_pn11, rfl, tb_nm11, by decide +kernel, by decide, tb_ni11, tb_mem2 (k := 5) (i := 151) (w := am_cw mt_Mo_thrown) rfl rfl⟩
theorem ok_Mo_attribute : am_okm tb_G tb_own tb_ws 129 := ⟨plainFor_of_name tb_pn11, rfl, tb_nm11, by decide +kernel, by decide, tb_ni11, tb_mem2 (k := 5) (i := 155) (w := am_cw mt_Mo_attribute) rfl rfl⟩
theorem ok_Mo_byteOf : am_okm tb_G tb_own tb_ws 130 := ⟨plainFor_of_name tb_pn11, rfl, tb_nm11, by decide +kernel, by decide, tb_ni11, tb_mem2 (k := 5) (i := 158) (w := am_cw mt_Mo_byteOf) rfl rfl⟩
theorem ok_Mo_put : am_okm tb_G tb_own tb_ws 131 := ⟨plainFor_of_name tb_pn11, rfl, tb_nm11, by decide +kernel, by decide, tb_ni11, tb_mem2 (k := 5) (i := 163) (w := am_cw mt_Mo_put) rfl rfl⟩
theorem ok_Mo_tell : am_okm tb_G tb_own tb_ws 132 := ⟨plainFor_of_name tb_pn11, rfl, tb_nm11, by decide +kernel, by decide, tb_ni11, tb_mem2 (k := 5) (i := 167) (w := am_cw mt_Mo_tell) rfl rfl⟩
theorem ok_Mo_start : am_okm tb_G tb_own tb_ws 133 := ⟨plainFor_of_name tb_pn11, rfl, tb_nm11, by decide +kernel, by decide, tb_ni11, tb_mem2 (k := 5) (i := 171) (w := am_cw mt_Mo_start) rfl rfl⟩
theorem ok_Mo_lay : am_okm tb_G tb_own tb_ws 134 := ⟨plainFor_of_name tb_pn11, rfl, tb_nm11, by decide +kernel, by decide, tb_ni11, tb_mem2 (k := 5) (i := 175) (w := am_cw mt_Mo_lay) rfl rfl⟩
theorem ok_Mo_give : am_okm tb_G tb_own tb_ws 135 := ⟨plainFor_of_name tb_pn11, rfl, tb_nm11, by decide +kernel, by decide, tb_ni11, tb_mem2 (k := 5) (i := 179) (w := am_cw mt_Mo_give) rfl rfl⟩
theorem ok_Mo_begin : am_okm tb_G tb_own tb_ws 136 := ⟨plainFor_of_name tb_pn11, rfl, tb_nm11, by decide +kernel, by decide, tb_ni11, tb_mem2 (k := 5) (i := 183) (w := am_cw mt_Mo_begin) rfl rfl⟩
theorem ok_Mo_free : am_okm tb_G tb_own tb_ws 137 := ⟨plainFor_of_name tb_pn11, rfl, tb_nm11, by decide +kernel, by decide, tb_ni11, tb_mem2 (k := 5) (i := 187) (w := am_cw mt_Mo_free) rfl rfl⟩
theorem ok_Mo_open : am_okm tb_G tb_own tb_ws 138 := ⟨plainFor_of_name tb_pn11, rfl, tb_nm11, by decide +kernel, by decide, tb_ni11, tb_mem2 (k := 5) (i := 191) (w := am_cw mt_Mo_open) rfl rfl⟩
theorem ok_Mo_ask : am_okm tb_G tb_own tb_ws 139 := ⟨plainFor_of_name tb_pn11, rfl, tb_nm11, by decide +kernel, by decide, tb_ni11, tb_mem2 (k := 5) (i := 195) (w := am_cw mt_Mo_ask) rfl rfl⟩
theorem ok_Mo_write : am_okm tb_G tb_own tb_ws 140 := ⟨plainFor_of_name tb_pn11, rfl, tb_nm11, by decide +kernel, by decide, tb_ni11, tb_mem2 (k := 5) (i := 199) (w := am_cw mt_Mo_write) rfl rfl⟩
theorem ok_Mo_writeOn : am_okm tb_G tb_own tb_ws 141 := ⟨plainFor_of_name tb_pn11, rfl, tb_nm11, by decide +kernel, by decide, tb_ni11, tb_mem2 (k := 5) (i := 203) (w := am_cw mt_Mo_writeOn) rfl rfl⟩
theorem ok_Mo_raw : am_okm tb_G tb_own tb_ws 142 := ⟨plainFor_of_name tb_pn11, rfl, tb_nm11, by decide +kernel, by decide, tb_ni11, tb_mem2 (k := 5) (i := 207) (w := am_cw mt_Mo_raw) rfl rfl⟩
theorem ok_Mo_event : am_okm tb_G tb_own tb_ws 143 := ⟨plainFor_of_name tb_pn11, rfl, tb_nm11, by decide +kernel, by decide, tb_ni11, tb_mem2 (k := 5) (i := 211) (w := am_cw mt_Mo_event) rfl rfl⟩
theorem ok_Mo_happen : am_okm tb_G tb_own tb_ws 144 := ⟨plainFor_of_name tb_pn11, rfl, tb_nm11, by decide +kernel, by decide, tb_ni11, tb_mem2 (k := 5) (i := 215) (w := am_cw mt_Mo_happen) rfl rfl⟩
theorem ok_Mo_choose : am_okm tb_G tb_own tb_ws 145 := ⟨plainFor_of_name tb_pn11, rfl, tb_nm11, by decide +kernel, by decide, tb_ni11, tb_mem2 (k := 5) (i := 219) (w := am_cw mt_Mo_choose) rfl rfl⟩
theorem ok_Mo_carry : am_okm tb_G tb_own tb_ws 146 := ⟨plainFor_of_name tb_pn11, rfl, tb_nm11, by decide +kernel, by decide, tb_ni11, tb_mem2 (k := 5) (i := 223) (w := am_cw mt_Mo_carry) rfl rfl⟩
theorem ok_Mo_send : am_okm tb_G tb_own tb_ws 147 := ⟨plainFor_of_name tb_pn11, rfl, tb_nm11, by decide +kernel, by decide, tb_ni11, tb_mem2 (k := 5) (i := 227) (w := am_cw mt_Mo_send) rfl rfl⟩
theorem ok_Mo_take : am_okm tb_G tb_own tb_ws 148 := ⟨plainFor_of_name tb_pn11, rfl, tb_nm11, by decide +kernel, by decide, tb_ni11, tb_mem2 (k := 5) (i := 231) (w := am_cw mt_Mo_take) rfl rfl⟩
theorem ok_Mo_check : am_okm tb_G tb_own tb_ws 149 := ⟨plainFor_of_name tb_pn11, rfl, tb_nm11, by decide +kernel, by decide, tb_ni11, tb_mem2 (k := 5) (i := 235) (w := am_cw mt_Mo_check) rfl rfl⟩
theorem ok_Mo_whiten : am_okm tb_G tb_own tb_ws 150 := ⟨plainFor_of_name tb_pn11, rfl, tb_nm11, by decide +kernel, by decide, tb_ni11, tb_mem2 (k := 6) (i := 2) (w := am_cw mt_Mo_whiten) rfl rfl⟩
theorem ok_Mo_hear : am_okm tb_G tb_own tb_ws 151 := ⟨plainFor_of_name tb_pn11, rfl, tb_nm11, by decide +kernel, by decide, tb_ni11, tb_mem2 (k := 6) (i := 6) (w := am_cw mt_Mo_hear) rfl rfl⟩
theorem ok_Mo_collect : am_okm tb_G tb_own tb_ws 152 := ⟨plainFor_of_name tb_pn11, rfl, tb_nm11, by decide +kernel, by decide, tb_ni11, tb_mem2 (k := 6) (i := 11) (w := am_cw mt_Mo_collect) rfl rfl⟩
theorem ok_Mo_clientHandles : am_okm tb_G tb_own tb_ws 153 := ⟨plainFor_of_name tb_pn11, rfl, tb_nm11, by decide +kernel, by decide, tb_ni11, tb_mem2 (k := 6) (i := 15) (w := am_cw mt_Mo_clientHandles) rfl rfl⟩
theorem ok_Mo_answered : am_okm tb_G tb_own tb_ws 154 := ⟨plainFor_of_name tb_pn11, rfl, tb_nm11, by decide +kernel, by decide, tb_ni11, tb_mem2 (k := 6) (i := 19) (w := am_cw mt_Mo_answered) rfl rfl⟩
theorem ok_Mo_end : am_okm tb_G tb_own tb_ws 155 := ⟨plainFor_of_name tb_pn11, rfl, tb_nm11, by decide +kernel, by decide, tb_ni11, tb_mem2 (k := 6) (i := 23) (w := am_cw mt_Mo_end) rfl rfl⟩
theorem ok_Mo_limits : am_okm tb_G tb_own tb_ws 156 := ⟨plainFor_of_name tb_pn11, rfl, tb_nm11, by decide +kernel, by decide, tb_ni11, tb_mem2 (k := 6) (i := 27) (w := am_cw mt_Mo_limits) rfl rfl⟩
theorem ok_Mo_read : am_okm tb_G tb_own tb_ws 157 := ⟨plainFor_of_name tb_pn11, rfl, tb_nm11, by decide +kernel, by decide, tb_ni11, tb_mem2 (k := 6) (i := 31) (w := am_cw mt_Mo_read) rfl rfl⟩
theorem ok_Mo_found : am_okm tb_G tb_own tb_ws 158 := ⟨plainFor_of_name tb_pn11, rfl, tb_nm11, by decide +kernel, by decide, tb_ni11, tb_mem2 (k := 6) (i := 35) (w := am_cw mt_Mo_found) rfl rfl⟩
theorem ok_Mo_written : am_okm tb_G tb_own tb_ws 159 := ⟨plainFor_of_name tb_pn11, rfl, tb_nm11, by decide +kernel, by decide, tb_ni11, tb_mem2 (k := 6) (i := 39) (w := am_cw mt_Mo_written) rfl rfl⟩
theorem ok_Mo_serverHandles : am_okm tb_G tb_own tb_ws 160 := ⟨plainFor_of_name tb_pn11, rfl, tb_nm11, by decide +kernel, by decide, tb_ni11, tb_mem2 (k := 6) (i := 43) (w := am_cw mt_Mo_serverHandles) rfl rfl⟩
theorem ok_Mo_refuse : am_okm tb_G tb_own tb_ws 161 := ⟨plainFor_of_name tb_pn11, rfl, tb_nm11, by decide +kernel, by decide, tb_ni11, tb_mem2 (k := 6) (i := 47) (w := am_cw mt_Mo_refuse) rfl rfl⟩
theorem ok_Mo_sized : am_okm tb_G tb_own tb_ws 162 := ⟨plainFor_of_name tb_pn11, rfl, tb_nm11, by decide +kernel, by decide, tb_ni11, tb_mem2 (k := 6) (i := 51) (w := am_cw mt_Mo_sized) rfl rfl⟩
theorem ok_Mo_agree : am_okm tb_G tb_own tb_ws 163 := ⟨plainFor_of_name tb_pn11, rfl, tb_nm11, by decide +kernel, by decide, tb_ni11, tb_mem2 (k := 6) (i := 55) (w := am_cw mt_Mo_agree) rfl rfl⟩
theorem ok_Mo_seek : am_okm tb_G tb_own tb_ws 164 := ⟨plainFor_of_name tb_pn11, rfl, tb_nm11, by decide +kernel, by decide, tb_ni11, tb_mem2 (k := 6) (i := 59) (w := am_cw mt_Mo_seek) rfl rfl⟩
theorem ok_Mo_finish : am_okm tb_G tb_own tb_ws 165 := ⟨plainFor_of_name tb_pn11, rfl, tb_nm11, by decide +kernel, by decide, tb_ni11, tb_mem2 (k := 6) (i := 63) (w := am_cw mt_Mo_finish) rfl rfl⟩
theorem ok_Mo_judge : am_okm tb_G tb_own tb_ws 166 := ⟨plainFor_of_name tb_pn11, rfl, tb_nm11, by decide +kernel, by decide, tb_ni11, tb_mem2 (k := 6) (i := 67) (w := am_cw mt_Mo_judge) rfl rfl⟩
theorem ok_Mo_touch : am_okm tb_G tb_own tb_ws 167 := ⟨plainFor_of_name tb_pn11, rfl, tb_nm11, by decide +kernel, by decide, tb_ni11, tb_mem2 (k := 6) (i := 71) (w := am_cw mt_Mo_touch) rfl rfl⟩
theorem ok_Mo_show : am_okm tb_G tb_own tb_ws 168 := ⟨plainFor_of_name tb_pn11, rfl, tb_nm11, by decide +kernel, by decide, tb_ni11, tb_mem2 (k := 6) (i := 75) (w := am_cw mt_Mo_show) rfl rfl⟩
theorem ok_Mo_replace : am_okm tb_G tb_own tb_ws 169 := ⟨plainFor_of_name tb_pn11, rfl, tb_nm11, by decide +kernel, by decide, tb_ni11, tb_mem2 (k := 6) (i := 79) (w := am_cw mt_Mo_replace) rfl rfl⟩
theorem ok_Mo_keep : am_okm tb_G tb_own tb_ws 170 := ⟨plainFor_of_name tb_pn11, rfl, tb_nm11, by decide +kernel, by decide, tb_ni11, tb_mem2 (k := 6) (i := 83) (w := am_cw mt_Mo_keep) rfl rfl⟩
theorem ok_Mo_run : am_okm tb_G tb_own tb_ws 171 := ⟨plainFor_of_name tb_pn11, rfl, tb_nm11, by decide +kernel, by decide, tb_ni11, tb_mem2 (k := 6) (i := 87) (w := am_cw mt_Mo_run) rfl rfl⟩
theorem ok_Mo_outcome : am_okm tb_G tb_own tb_ws 172 := ⟨plainFor_of_name tb_pn11, rfl, tb_nm11, by decide +kernel, by decide, tb_ni11, tb_mem2 (k := 6) (i := 91) (w := am_cw mt_Mo_outcome) rfl rfl⟩
theorem ok_Mo_error : am_okm tb_G tb_own tb_ws 173 := ⟨plainFor_of_name tb_pn11, rfl, tb_nm11, by decide +kernel, by decide, tb_ni11, tb_mem2 (k := 6) (i := 95) (w := am_cw mt_Mo_error) rfl rfl⟩
theorem ok_Mo_data : am_okm tb_G tb_own tb_ws 174 := ⟨plainFor_of_name tb_pn11, rfl, tb_nm11, by decide +kernel, by decide, tb_ni11, tb_mem2 (k := 6) (i := 99) (w := am_cw mt_Mo_data) rfl rfl⟩
theorem ok_Mo_note : am_okm tb_G tb_own tb_ws 175 := ⟨plainFor_of_name tb_pn11, rfl, tb_nm11, by decide +kernel, by decide, tb_ni11, tb_mem2 (k := 6) (i := 103) (w := am_cw mt_Mo_note) rfl rfl⟩
theorem ok_Mo_fail : am_okm tb_G tb_own tb_ws 176 := ⟨plainFor_of_name tb_pn11, rfl, tb_nm11, by decide +kernel, by decide, tb_ni11, tb_mem2 (k := 6) (i := 107) (w := am_cw mt_Mo_fail) rfl rfl⟩
theorem ok_Mo_value : am_okm tb_G tb_own tb_ws 177 := ⟨plainFor_of_name tb_pn11, rfl, tb_nm11, by decide +kernel, by decide, tb_ni11, tb_mem2 (k := 6) (i := 111) (w := am_cw mt_Mo_value) rfl rfl⟩
theorem ok_Mo_air : am_okm tb_G tb_own tb_ws 178 := ⟨plainFor_of_name tb_pn11, rfl, tb_nm11, by decide +kernel, by decide, tb_ni11, tb_mem2 (k := 6) (i := 115) (w := am_cw mt_Mo_air) rfl rfl⟩
theorem ok_Mo_look : am_okm tb_G tb_own tb_ws 179 := ⟨plainFor_of_name tb_pn11, rfl, tb_nm11, by decide +kernel, by decide, tb_ni11, tb_mem2 (k := 6) (i := 119) (w := am_cw mt_Mo_look) rfl rfl⟩
end
section
/-! Part 33 (written by gen5.py): the tables keep what the machine takes for granted -/
theorem tb_chunk {α : Type} {l : List α} {f : α → Bool} {k : Nat} (h1 : ((l.drop k).take 25).all f = true) (h2 : (l.drop (k + 25)).all f = true) : (l.drop k).all f = true := by
  rw [← List.take_append_drop 25 (l.drop k), List.all_append, h1, List.drop_drop, h2]
  rfl
theorem tb_ca0 : tb_PL0.all (tb_chk 0) = true := (tb_chunk (k := 0) tb_c0_0 rfl)
theorem tb_ca1 : tb_PL1.all (tb_chk 1) = true := (tb_chunk (k := 0) tb_c1_0 rfl)
theorem tb_ca2 : tb_PL2.all (tb_chk 2) = true := (tb_chunk (k := 0) tb_c2_0 (tb_chunk (k := 25) tb_c2_25 rfl))
theorem tb_ca3 : tb_PL3.all (tb_chk 3) = true := (tb_chunk (k := 0) tb_c3_0 (tb_chunk (k := 25) tb_c3_25 rfl))
theorem tb_ca4 : tb_PL4.all (tb_chk 4) = true := (tb_chunk (k := 0) tb_c4_0 rfl)
theorem tb_ca5 : tb_PL5.all (tb_chk 5) = true := (tb_chunk (k := 0) tb_c5_0 rfl)
theorem tb_ca6 : tb_PL6.all (tb_chk 6) = true := (tb_chunk (k := 0) tb_c6_0 rfl)
theorem tb_ca7 : tb_PL7.all (tb_chk 7) = true := (tb_chunk (k := 0) tb_c7_0 rfl)
theorem tb_ca8 : tb_PL8.all (tb_chk 8) = true := (tb_chunk (k := 0) tb_c8_0 (tb_chunk (k := 25) tb_c8_25 rfl))
theorem tb_ca9 : tb_PL9.all (tb_chk 9) = true := (tb_chunk (k := 0) tb_c9_0 rfl)
theorem tb_ca10 : tb_PL10.all (tb_chk 10) = true := (tb_chunk (k := 0) tb_c10_0 (tb_chunk (k := 25) tb_c10_25 (tb_chunk (k := 50) tb_c10_50 rfl)))
theorem tb_ca11 : tb_PL11.all (tb_chk 11) = true := (tb_chunk (k := 0) tb_c11_0 (tb_chunk (k := 25) tb_c11_25 (tb_chunk (k := 50) tb_c11_50 (tb_chunk (k := 75) tb_c11_75 rfl))))
theorem tb_ca12 : tb_PL12.all (tb_chk 12) = true := (tb_chunk (k := 0) tb_c12_0 (tb_chunk (k := 25) tb_c12_25 (tb_chunk (k := 50) tb_c12_50 rfl)))
theorem tb_ca13 : tb_PL13.all (tb_chk 13) = true := rfl
theorem tb_ca14 : tb_PL14.all (tb_chk 14) = true := rfl
theorem tb_ca (o : Nat) : (tb_PL.getD o []).all (tb_chk o) = true := match o with
  | 0 => tb_ca0
  | 1 => tb_ca1
  | 2 => tb_ca2
  | 3 => tb_ca3
  | 4 => tb_ca4
  | 5 => tb_ca5
  | 6 => tb_ca6
  | 7 => tb_ca7
  | 8 => tb_ca8
  | 9 => tb_ca9
  | 10 => tb_ca10
  | 11 => tb_ca11
  | 12 => tb_ca12
  | 13 => tb_ca13
  | 14 => tb_ca14
  | _ + 15 => rfl
theorem tb_get {o idx : Nat} {e : Nat × Nat × Nat × Nat} (h : tb_pl o idx = e) (he : e.1 ≠ 0) : ∃ p, tb_chk o (idx, e, p) = true := by
  unfold tb_pl at h
  split at h
  · rename_i q hq
    have h1 := List.mem_of_find?_eq_some hq
    have h2 := List.find?_some hq
    have h3 := List.all_eq_true.mp (tb_ca o) q h1
    obtain ⟨q1, q2, q3⟩ := q
    have h4 : q1 = idx := by simpa using h2
    subst h4
    subst h
    exact ⟨q3, h3⟩
  · subst h
    exact absurd rfl he
theorem okb_0 : ∀ i, i < 20 → am_okm tb_G tb_own tb_ws (0 + i) := fun i hi => match i, hi with
  | 0, _ => ok_Al_init
  | 1, _ => ok_Ch_init
  | 2, _ => ok_Ma_floorMod
  | 3, _ => ok_Ch_countUsed
  | 4, _ => ok_Ig_bitCount
  | 5, _ => ok_Ch_isMarked
  | 6, _ => ok_Wh_init
  | 7, _ => ok_De_init
  | 8, _ => ok_Ou_init
  | 9, _ => ok_Ro_init
  | 10, _ => ok_In_init
  | 11, _ => ok_Cl_init
  | 12, _ => ok_No_init
  | 13, _ => ok_Ro_add
  | 14, _ => ok_Se_init
  | 15, _ => ok_At_init
  | 16, _ => ok_Al_error
  | 17, _ => ok_Cl_failure
  | 18, _ => ok_Al_look
  | 19, _ => ok_De_misses
  | n + 20, hi => absurd hi (by omega)
theorem okb_1 : ∀ i, i < 20 → am_okm tb_G tb_own tb_ws (20 + i) := fun i hi => match i, hi with
  | 0, _ => ok_Cl_limit
  | 1, _ => ok_Se_limit
  | 2, _ => ok_Se_keptParts
  | 3, _ => ok_Se_isUnconfirmed
  | 4, _ => ok_La_cell
  | 5, _ => ok_La_attribute
  | 6, _ => ok_Al_attribute
  | 7, _ => ok_Al_isByte
  | 8, _ => ok_Al_isNumberSize
  | 9, _ => ok_Se_isFull
  | 10, _ => ok_Se_addAttribute
  | 11, _ => ok_At_become
  | 12, _ => ok_Ro_addNumber
  | 13, _ => ok_La_put
  | 14, _ => ok_Al_put
  | 15, _ => ok_Se_hasHandle
  | 16, _ => ok_Se_valueOf
  | 17, _ => ok_Ro_length
  | 18, _ => ok_Ro_clear
  | 19, _ => ok_La_tell
  | n + 20, hi => absurd hi (by omega)
theorem okb_2 : ∀ i, i < 20 → am_okm tb_G tb_own tb_ws (40 + i) := fun i hi => match i, hi with
  | 0, _ => ok_Al_tell
  | 1, _ => ok_Ou_waiting
  | 2, _ => ok_Se_sayByItself
  | 3, _ => ok_Ro_addFrom
  | 4, _ => ok_Ou_give
  | 5, _ => ok_La_begin
  | 6, _ => ok_Al_begin
  | 7, _ => ok_Al_requireIdleClient
  | 8, _ => ok_Cl_mayStart
  | 9, _ => ok_Cl_start
  | 10, _ => ok_Cl_composeFirst
  | 11, _ => ok_Cl_compose
  | 12, _ => ok_Cl_composeFind
  | 13, _ => ok_Cl_composePart
  | 14, _ => ok_Cl_ask
  | 15, _ => ok_La_write
  | 16, _ => ok_Al_write
  | 17, _ => ok_La_raw
  | 18, _ => ok_Al_raw
  | 19, _ => ok_La_event
  | n + 20, hi => absurd hi (by omega)
theorem okb_3 : ∀ i, i < 20 → am_okm tb_G tb_own tb_ws (60 + i) := fun i hi => match i, hi with
  | 0, _ => ok_Al_event
  | 1, _ => ok_Al_exchange
  | 2, _ => ok_Ch_advance
  | 3, _ => ok_Wh_tune
  | 4, _ => ok_De_send
  | 5, _ => ok_Ou_takePiece
  | 6, _ => ok_De_checkOf
  | 7, _ => ok_Ro_at
  | 8, _ => ok_Wh_turnOver
  | 9, _ => ok_De_hear
  | 10, _ => ok_In_forgetDone
  | 11, _ => ok_De_spoilAt
  | 12, _ => ok_De_isGood
  | 13, _ => ok_De_accept
  | 14, _ => ok_In_take
  | 15, _ => ok_In_isSound
  | 16, _ => ok_In_isDone
  | 17, _ => ok_Se_serve
  | 18, _ => ok_Se_shapeError
  | 19, _ => ok_Se_answerTo
  | n + 20, hi => absurd hi (by omega)
theorem okb_4 : ∀ i, i < 20 → am_okm tb_G tb_own tb_ws (80 + i) := fun i hi => match i, hi with
  | 0, _ => ok_Al_boundedLimit
  | 1, _ => ok_Se_answerFind
  | 2, _ => ok_At_isOfType
  | 3, _ => ok_Se_answerEnd
  | 4, _ => ok_Se_planParts
  | 5, _ => ok_Ro_overlay
  | 6, _ => ok_Se_answerAccess
  | 7, _ => ok_At_isReadable
  | 8, _ => ok_Se_answerRead
  | 9, _ => ok_At_isWritable
  | 10, _ => ok_Se_answerWrite
  | 11, _ => ok_Se_answerPart
  | 12, _ => ok_Se_answerError
  | 13, _ => ok_Cl_listen
  | 14, _ => ok_Cl_keepNote
  | 15, _ => ok_No_keep
  | 16, _ => ok_Cl_endsWith
  | 17, _ => ok_Cl_succeed
  | 18, _ => ok_Cl_fail
  | 19, _ => ok_Cl_takeError
  | n + 20, hi => absurd hi (by omega)
theorem okb_5 : ∀ i, i < 20 → am_okm tb_G tb_own tb_ws (100 + i) := fun i hi => match i, hi with
  | 0, _ => ok_Cl_neededBytes
  | 1, _ => ok_Cl_goOn
  | 2, _ => ok_Cl_goOnReading
  | 3, _ => ok_Ro_cut
  | 4, _ => ok_Cl_goOnFinding
  | 5, _ => ok_Cl_goOnWriting
  | 6, _ => ok_Ro_isSameFrom
  | 7, _ => ok_Al_finish
  | 8, _ => ok_De_countMiss
  | 9, _ => ok_Cl_endEvent
  | 10, _ => ok_La_run
  | 11, _ => ok_Al_run
  | 12, _ => ok_La_outcome
  | 13, _ => ok_Al_outcome
  | 14, _ => ok_Cl_state
  | 15, _ => ok_La_data
  | 16, _ => ok_Al_data
  | 17, _ => ok_Al_byteOrLength
  | 18, _ => ok_Ro_has
  | 19, _ => ok_La_note
  | n + 20, hi => absurd hi (by omega)
theorem okb_6 : ∀ i, i < 20 → am_okm tb_G tb_own tb_ws (120 + i) := fun i hi => match i, hi with
  | 0, _ => ok_Al_note
  | 1, _ => ok_No_has
  | 2, _ => ok_No_latest
  | 3, _ => ok_La_value
  | 4, _ => ok_Al_value
  | 5, _ => ok_La_air
  | 6, _ => ok_Al_air
  | 7, _ => ok_Mo_init
  | 8, _ => ok_Mo_thrown
  | 9, _ => ok_Mo_attribute
  | 10, _ => ok_Mo_byteOf
  | 11, _ => ok_Mo_put
  | 12, _ => ok_Mo_tell
  | 13, _ => ok_Mo_start
  | 14, _ => ok_Mo_lay
  | 15, _ => ok_Mo_give
  | 16, _ => ok_Mo_begin
  | 17, _ => ok_Mo_free
  | 18, _ => ok_Mo_open
  | 19, _ => ok_Mo_ask
  | n + 20, hi => absurd hi (by omega)
theorem okb_7 : ∀ i, i < 20 → am_okm tb_G tb_own tb_ws (140 + i) := fun i hi => match i, hi with
  | 0, _ => ok_Mo_write
  | 1, _ => ok_Mo_writeOn
  | 2, _ => ok_Mo_raw
  | 3, _ => ok_Mo_event
  | 4, _ => ok_Mo_happen
  | 5, _ => ok_Mo_choose
  | 6, _ => ok_Mo_carry
  | 7, _ => ok_Mo_send
  | 8, _ => ok_Mo_take
  | 9, _ => ok_Mo_check
  | 10, _ => ok_Mo_whiten
  | 11, _ => ok_Mo_hear
  | 12, _ => ok_Mo_collect
  | 13, _ => ok_Mo_clientHandles
  | 14, _ => ok_Mo_answered
  | 15, _ => ok_Mo_end
  | 16, _ => ok_Mo_limits
  | 17, _ => ok_Mo_read
  | 18, _ => ok_Mo_found
  | 19, _ => ok_Mo_written
  | n + 20, hi => absurd hi (by omega)
theorem okb_8 : ∀ i, i < 20 → am_okm tb_G tb_own tb_ws (160 + i) := fun i hi => match i, hi with
  | 0, _ => ok_Mo_serverHandles
  | 1, _ => ok_Mo_refuse
  | 2, _ => ok_Mo_sized
  | 3, _ => ok_Mo_agree
  | 4, _ => ok_Mo_seek
  | 5, _ => ok_Mo_finish
  | 6, _ => ok_Mo_judge
  | 7, _ => ok_Mo_touch
  | 8, _ => ok_Mo_show
  | 9, _ => ok_Mo_replace
  | 10, _ => ok_Mo_keep
  | 11, _ => ok_Mo_run
  | 12, _ => ok_Mo_outcome
  | 13, _ => ok_Mo_error
  | 14, _ => ok_Mo_data
  | 15, _ => ok_Mo_note
  | 16, _ => ok_Mo_fail
  | 17, _ => ok_Mo_value
  | 18, _ => ok_Mo_air
  | 19, _ => ok_Mo_look
  | n + 20, hi => absurd hi (by omega)
theorem tb_okm {j : Nat} (hj : j < 180) : am_okm tb_G tb_own tb_ws j := by
  have hm : j % 20 < 20 := Nat.mod_lt _ (by decide)
  have hd : j / 20 < 9 := by omega
  have hc := Nat.div_add_mod j 20
  generalize j % 20 = r at hm hc
  generalize j / 20 = q at hd hc
  subst hc
  match q, hd with
  | 0, _ => exact okb_0 r hm
  | 1, _ => exact okb_1 r hm
  | 2, _ => exact okb_2 r hm
  | 3, _ => exact okb_3 r hm
  | 4, _ => exact okb_4 r hm
  | 5, _ => exact okb_5 r hm
  | 6, _ => exact okb_6 r hm
  | 7, _ => exact okb_7 r hm
  | 8, _ => exact okb_8 r hm
  | q + 9, hd => exact absurd hd (by omega)
theorem tb_spw {k : Nat} {w : Cond} (h : tb_at (tb_sp k) w = true) : w ∈ tb_ws := tb_mem h
def tb_tk (f : Nat) (t : FieldType) : Bool := match f % 10, t with
  | 0, .int => true
  | 1, .boolean => true
  | 2, .object _ => true
  | 2, .array _ => true
  | _, _ => false
theorem tb_tk_of {f : Nat} {t : FieldType} (h : tb_tk f t = true) : (f % 10 = 0 ∧ t = .int) ∨ (f % 10 = 1 ∧ t = .boolean) ∨ (f % 10 = 2 ∧ ((∃ n, t = .object n) ∨ ∃ u, t = .array u)) := by
  unfold tb_tk at h
  split at h
  · rename_i hf
    exact Or.inl ⟨hf, rfl⟩
  · rename_i hf
    exact Or.inr (Or.inl ⟨hf, rfl⟩)
  · rename_i hf
    exact Or.inr (Or.inr ⟨hf, Or.inl ⟨_, rfl⟩⟩)
  · rename_i hf
    exact Or.inr (Or.inr ⟨hf, Or.inr ⟨_, rfl⟩⟩)
  · cases h
def tb_k1 (ci k : Nat) : Bool := tb_at ((tb_cp ci).2.2.getD k 0) (u_lay (tb_own ci) (tb_T ci) k)
def tb_k2 (ci k : Nat) : Bool := decide (parseFieldDescriptor (tb_T ci k).2.2.1 = some (tb_ty ci k)) && decide ((tb_T ci k).1 = tb_own ci) && tb_tk (tb_ft ci k) (tb_ty ci k) && decide ((tb_T ci k).2.2.2 = decide (10 ≤ tb_ft ci k))
def tb_k3 (ci : Nat) : Bool := (List.range (tb_nf ci)).all fun a => (List.range (tb_nf ci)).all fun b => decide (a = b) || decide ((tb_T ci a).2.1 ≠ (tb_T ci b).2.1)
set_option maxRecDepth 100000 in
theorem tb_ka0 : (List.range (tb_nf 0)).all (tb_k1 0) = true := by decide +kernel
set_option maxRecDepth 100000 in
theorem tb_kb0 : (List.range (tb_nf 0)).all (tb_k2 0) = true := by decide +kernel
set_option maxRecDepth 100000 in
theorem tb_kd0 : tb_k3 0 = true := by decide +kernel
set_option maxRecDepth 100000 in
theorem tb_ka1 : (List.range (tb_nf 1)).all (tb_k1 1) = true := by decide +kernel
set_option maxRecDepth 100000 in
theorem tb_kb1 : (List.range (tb_nf 1)).all (tb_k2 1) = true := by decide +kernel
set_option maxRecDepth 100000 in
theorem tb_kd1 : tb_k3 1 = true := by decide +kernel
set_option maxRecDepth 100000 in
theorem tb_ka2 : (List.range (tb_nf 2)).all (tb_k1 2) = true := by decide +kernel
set_option maxRecDepth 100000 in
theorem tb_kb2 : (List.range (tb_nf 2)).all (tb_k2 2) = true := by decide +kernel
set_option maxRecDepth 100000 in
theorem tb_kd2 : tb_k3 2 = true := by decide +kernel
set_option maxRecDepth 100000 in
theorem tb_ka3 : (List.range (tb_nf 3)).all (tb_k1 3) = true := by decide +kernel
set_option maxRecDepth 100000 in
theorem tb_kb3 : (List.range (tb_nf 3)).all (tb_k2 3) = true := by decide +kernel
set_option maxRecDepth 100000 in
theorem tb_kd3 : tb_k3 3 = true := by decide +kernel
set_option maxRecDepth 100000 in
theorem tb_ka4 : (List.range (tb_nf 4)).all (tb_k1 4) = true := by decide +kernel
set_option maxRecDepth 100000 in
theorem tb_kb4 : (List.range (tb_nf 4)).all (tb_k2 4) = true := by decide +kernel
set_option maxRecDepth 100000 in
theorem tb_kd4 : tb_k3 4 = true := by decide +kernel
set_option maxRecDepth 100000 in
theorem tb_ka5 : (List.range (tb_nf 5)).all (tb_k1 5) = true := by decide +kernel
set_option maxRecDepth 100000 in
theorem tb_kb5 : (List.range (tb_nf 5)).all (tb_k2 5) = true := by decide +kernel
set_option maxRecDepth 100000 in
theorem tb_kd5 : tb_k3 5 = true := by decide +kernel
set_option maxRecDepth 100000 in
theorem tb_ka6 : (List.range (tb_nf 6)).all (tb_k1 6) = true := by decide +kernel
set_option maxRecDepth 100000 in
theorem tb_kb6 : (List.range (tb_nf 6)).all (tb_k2 6) = true := by decide +kernel
set_option maxRecDepth 100000 in
theorem tb_kd6 : tb_k3 6 = true := by decide +kernel
set_option maxRecDepth 100000 in
theorem tb_ka7 : (List.range (tb_nf 7)).all (tb_k1 7) = true := by decide +kernel
set_option maxRecDepth 100000 in
theorem tb_kb7 : (List.range (tb_nf 7)).all (tb_k2 7) = true := by decide +kernel
set_option maxRecDepth 100000 in
theorem tb_kd7 : tb_k3 7 = true := by decide +kernel
set_option maxRecDepth 100000 in
theorem tb_ka8 : (List.range (tb_nf 8)).all (tb_k1 8) = true := by decide +kernel
set_option maxRecDepth 100000 in
theorem tb_kb8 : (List.range (tb_nf 8)).all (tb_k2 8) = true := by decide +kernel
set_option maxRecDepth 100000 in
theorem tb_kd8 : tb_k3 8 = true := by decide +kernel
set_option maxRecDepth 100000 in
theorem tb_ka9 : (List.range (tb_nf 9)).all (tb_k1 9) = true := by decide +kernel
set_option maxRecDepth 100000 in
theorem tb_kb9 : (List.range (tb_nf 9)).all (tb_k2 9) = true := by decide +kernel
set_option maxRecDepth 100000 in
theorem tb_kd9 : tb_k3 9 = true := by decide +kernel
set_option maxRecDepth 100000 in
theorem tb_ka10 : (List.range (tb_nf 10)).all (tb_k1 10) = true := by decide +kernel
set_option maxRecDepth 100000 in
theorem tb_kb10 : (List.range (tb_nf 10)).all (tb_k2 10) = true := by decide +kernel
set_option maxRecDepth 100000 in
theorem tb_kd10 : tb_k3 10 = true := by decide +kernel
set_option maxRecDepth 100000 in
theorem tb_ka11 : (List.range (tb_nf 11)).all (tb_k1 11) = true := by decide +kernel
set_option maxRecDepth 100000 in
theorem tb_kb11 : (List.range (tb_nf 11)).all (tb_k2 11) = true := by decide +kernel
set_option maxRecDepth 100000 in
theorem tb_kd11 : tb_k3 11 = true := by decide +kernel
theorem tb_acl {ci : Nat} (hc : tb_cl[ci]? = some (tb_own ci, tb_T ci, tb_nf ci)) (h0 : ci < 12) (h1 : (List.range (tb_nf ci)).all (tb_k1 ci) = true) (h2 : (List.range (tb_nf ci)).all (tb_k2 ci) = true) (h3 : tb_k3 ci = true) : am_ok tb_G tb_cl tb_own tb_ws ci := by
  rw [List.all_eq_true] at h1 h2
  unfold tb_k3 at h3
  rw [List.all_eq_true] at h3
  have h2' : ∀ k, k < tb_nf ci → parseFieldDescriptor (tb_T ci k).2.2.1 = some (tb_ty ci k) ∧ (tb_T ci k).1 = tb_own ci ∧ tb_tk (tb_ft ci k) (tb_ty ci k) = true ∧ (tb_T ci k).2.2.2 = decide (10 ≤ tb_ft ci k) := fun k hk => by
    have := h2 k (List.mem_range.mpr hk)
    unfold tb_k2 at this
    rw [Bool.and_eq_true, Bool.and_eq_true, Bool.and_eq_true] at this
    exact ⟨of_decide_eq_true this.1.1.1, of_decide_eq_true this.1.1.2, this.1.2, of_decide_eq_true this.2⟩
  refine ⟨tb_T ci, tb_ty ci, hc, by omega, fun w hw => ?_, fun k hk => (h2' k hk).1, fun a ha b hb hab => ?_, fun k hk => (h2' k hk).2.1, fun k hk => tb_tk_of (h2' k hk).2.2.1, fun k hk => (h2' k hk).2.2.2, fun o idx fi hp hfi => ?_⟩
  · obtain ⟨k, hk, rfl⟩ := List.mem_map.mp hw
    exact tb_mem (h1 k hk)
  · have := h3 a (List.mem_range.mpr ha)
    rw [List.all_eq_true] at this
    have := this b (List.mem_range.mpr hb)
    rw [Bool.or_eq_true] at this
    rcases this with h | h
    · exact absurd (of_decide_eq_true h) hab
    · exact of_decide_eq_true h
  · obtain ⟨q, hq⟩ := tb_get (e := (1, ci, fi, 0)) hp (by show (1 : Nat) ≠ 0; decide)
    have hq : (decide (ci < 12) && tb_at q (.fieldLink (tb_own o) idx (tb_own ci) (tb_T ci fi).2.1 (tb_T ci fi).2.2.1)) = true := hq
    rw [Bool.and_eq_true] at hq
    exact tb_mem hq.2
theorem tb_aok {ci : Nat} (h : ci < 12) : am_ok tb_G tb_cl tb_own tb_ws ci := match ci, h with
  | 0, h => tb_acl rfl h tb_ka0 tb_kb0 tb_kd0
  | 1, h => tb_acl rfl h tb_ka1 tb_kb1 tb_kd1
  | 2, h => tb_acl rfl h tb_ka2 tb_kb2 tb_kd2
  | 3, h => tb_acl rfl h tb_ka3 tb_kb3 tb_kd3
  | 4, h => tb_acl rfl h tb_ka4 tb_kb4 tb_kd4
  | 5, h => tb_acl rfl h tb_ka5 tb_kb5 tb_kd5
  | 6, h => tb_acl rfl h tb_ka6 tb_kb6 tb_kd6
  | 7, h => tb_acl rfl h tb_ka7 tb_kb7 tb_kd7
  | 8, h => tb_acl rfl h tb_ka8 tb_kb8 tb_kd8
  | 9, h => tb_acl rfl h tb_ka9 tb_kb9 tb_kd9
  | 10, h => tb_acl rfl h tb_ka10 tb_kb10 tb_kd10
  | 11, h => tb_acl rfl h tb_ka11 tb_kb11 tb_kd11
  | n + 12, h => absurd h (by omega)
theorem tb_clo {ci : Nat} (h : ci < 12) : ∃ T, tb_cl[ci]? = some (tb_own ci, T, tb_nf ci) := match ci, h with
  | 0, _ => ⟨_, rfl⟩
  | 1, _ => ⟨_, rfl⟩
  | 2, _ => ⟨_, rfl⟩
  | 3, _ => ⟨_, rfl⟩
  | 4, _ => ⟨_, rfl⟩
  | 5, _ => ⟨_, rfl⟩
  | 6, _ => ⟨_, rfl⟩
  | 7, _ => ⟨_, rfl⟩
  | 8, _ => ⟨_, rfl⟩
  | 9, _ => ⟨_, rfl⟩
  | 10, _ => ⟨_, rfl⟩
  | 11, _ => ⟨_, rfl⟩
  | n + 12, h => absurd h (by omega)
theorem tb_s0 : Cond.instanceMethod Lib.objectInit ∈ tb_ws := tb_spw (k := 0) (by decide +kernel)
theorem tb_s1 : Cond.code Lib.objectInit ⟨#[0xb1]⟩ 1 none ∈ tb_ws := tb_mem2 (k := 1) (i := 30) rfl rfl
theorem tb_s2 : Cond.native arraycopyName ∈ tb_ws := tb_spw (k := 2) (by decide +kernel)
theorem tb_s3 : Cond.static arraycopyName ∈ tb_ws := tb_spw (k := 3) (by decide +kernel)
theorem tb_s4 : Cond.initialized "java/lang/System" ∈ tb_ws := tb_spw (k := 4) (by decide +kernel)
theorem tb_s5 : Cond.static Lib.Math.min.name ∈ tb_ws := tb_spw (k := 5) (by decide +kernel)
theorem tb_s6 : Cond.code Lib.Math.min.name Lib.Math.min.code 2 (some .int) ∈ tb_ws := tb_mem2 (k := 3) (i := 44) rfl rfl
theorem tb_s7 : Cond.static Lib.Math.max.name ∈ tb_ws := tb_spw (k := 7) (by decide +kernel)
theorem tb_s8 : Cond.code Lib.Math.max.name Lib.Math.max.code 2 (some .int) ∈ tb_ws := tb_mem2 (k := 3) (i := 212) rfl rfl
theorem tb_s9 : Cond.initialized "java/lang/Math" ∈ tb_ws := tb_spw (k := 9) (by decide +kernel)
theorem tb_s10 : Cond.arrayOver (.object (tb_own 7)) ∈ tb_ws := tb_spw (k := 10) (by decide +kernel)
theorem tb_s11 : Cond.arrayOver (.object (tb_own 0)) ∈ tb_ws := tb_spw (k := 11) (by decide +kernel)
theorem tb_s12 : Cond.arrayClass (newarray.typeOf .int) ∈ tb_ws := tb_spw (k := 12) (by decide +kernel)
theorem tb_s13 : Cond.arrayClass (newarray.typeOf .boolean) ∈ tb_ws := tb_spw (k := 13) (by decide +kernel)
theorem tb_s14 : Cond.arrayClass (newarray.typeOf .long) ∈ tb_ws := tb_spw (k := 14) (by decide +kernel)
theorem tb_sc {x : Nat} (h : x < 4) : Cond.castable (tb_xn x) (tb_xn x) ∈ tb_ws := match x, h with
  | 0, _ => tb_spw (k := 15) (by decide +kernel)
  | 1, _ => tb_spw (k := 16) (by decide +kernel)
  | 2, _ => tb_spw (k := 17) (by decide +kernel)
  | 3, _ => tb_spw (k := 18) (by decide +kernel)
  | n + 4, h => absurd h (by omega)
theorem tb_si {x : Nat} (h : x < 4) : Cond.initialized (tb_xn x) ∈ tb_ws := match x, h with
  | 0, _ => tb_spw (k := 19) (by decide +kernel)
  | 1, _ => tb_spw (k := 20) (by decide +kernel)
  | 2, _ => tb_spw (k := 21) (by decide +kernel)
  | 3, _ => tb_spw (k := 22) (by decide +kernel)
  | n + 4, h => absurd h (by omega)
theorem tb_alc {w : Cond} {ws : List Cond} (h : w ∈ tb_ws ∨ w ∈ am_zw) (t : ∀ w ∈ ws, w ∈ tb_ws ∨ w ∈ am_zw) : ∀ w' ∈ w :: ws, w' ∈ tb_ws ∨ w' ∈ am_zw := fun w' hw => by
  rcases List.mem_cons.mp hw with e | e
  · subst e; exact h
  · exact t w' e
theorem tb_aln : ∀ w' ∈ ([] : List Cond), w' ∈ tb_ws ∨ w' ∈ am_zw := fun _ h => nomatch h
theorem tb_ex0 : ∀ w ∈ Bundle.ownAtoms0 (tb_own 10) 69 (tb_xn 0) ["java/lang/RuntimeException", "java/lang/Exception"], w ∈ tb_ws ∨ w ∈ am_zw := 
  tb_alc (Or.inl (tb_mem2 (k := 1) (i := 15) rfl rfl)) <|
  tb_alc (Or.inl (tb_mem2 (k := 2) (i := 162) rfl rfl)) <|
  tb_alc (Or.inl (tb_mem2 (k := 2) (i := 171) rfl rfl)) <|
  tb_alc (Or.inl (tb_mem2 (k := 2) (i := 176) rfl rfl)) <|
  tb_alc (Or.inl (tb_mem2 (k := 2) (i := 179) rfl rfl)) <|
  tb_alc (Or.inl (tb_mem2 (k := 2) (i := 181) rfl rfl)) <|
  tb_alc (Or.inl (tb_mem2 (k := 2) (i := 163) rfl rfl)) <|
  tb_alc (Or.inl (tb_mem2 (k := 2) (i := 164) rfl rfl)) <|
  tb_alc (Or.inl (tb_mem2 (k := 1) (i := 29) rfl rfl)) <|
  tb_alc (Or.inl (tb_mem2 (k := 1) (i := 30) rfl rfl)) <|
  tb_alc (Or.inl (tb_mem2 (k := 2) (i := 165) rfl rfl)) <|
  tb_alc (Or.inl (tb_mem2 (k := 2) (i := 170) rfl rfl)) <|
  tb_alc (Or.inl (tb_mem2 (k := 2) (i := 177) rfl rfl)) <|
  tb_alc (Or.inl (tb_mem2 (k := 2) (i := 193) rfl rfl)) <|
  tb_alc (Or.inl (tb_mem2 (k := 2) (i := 152) rfl rfl)) <|
  tb_alc (Or.inl (tb_mem2 (k := 2) (i := 194) rfl rfl)) <|
  tb_alc (Or.inl (tb_mem2 (k := 2) (i := 154) rfl rfl)) <|
  tb_alc (Or.inl (tb_mem2 (k := 2) (i := 195) rfl rfl)) <|
  tb_alc (Or.inl (tb_mem2 (k := 2) (i := 156) rfl rfl)) <|
  tb_alc (Or.inl (tb_mem2 (k := 2) (i := 166) rfl rfl)) <|
  tb_alc (Or.inr (by first | exact .head _ | exact .tail _ (.head _) | exact .tail _ (.tail _ (.head _)) | exact .tail _ (.tail _ (.tail _ (.head _))))) <|
  tb_alc (Or.inl (tb_mem2 (k := 2) (i := 168) rfl rfl)) <|
  tb_alc (Or.inr (by first | exact .head _ | exact .tail _ (.head _) | exact .tail _ (.tail _ (.head _)) | exact .tail _ (.tail _ (.tail _ (.head _))))) <|
  tb_alc (Or.inl (tb_mem2 (k := 2) (i := 158) rfl rfl)) <|
  tb_alc (Or.inl (tb_mem2 (k := 2) (i := 183) rfl rfl)) <|
  tb_alc (Or.inl (tb_mem2 (k := 2) (i := 184) rfl rfl)) <|
  tb_alc (Or.inl (tb_mem2 (k := 2) (i := 185) rfl rfl)) <|
  tb_alc (Or.inl (tb_mem2 (k := 2) (i := 186) rfl rfl)) <|
  tb_alc (Or.inl (tb_mem2 (k := 2) (i := 143) rfl rfl)) <|
  tb_alc (Or.inl (tb_mem2 (k := 2) (i := 186) rfl rfl)) <|
  tb_alc (Or.inl (tb_mem2 (k := 2) (i := 187) rfl rfl)) <|
  tb_alc (Or.inl (tb_mem2 (k := 2) (i := 188) rfl rfl)) <|
  tb_alc (Or.inl (tb_mem2 (k := 2) (i := 189) rfl rfl)) <|
  tb_alc (Or.inl (tb_mem2 (k := 2) (i := 145) rfl rfl)) <|
  tb_alc (Or.inl (tb_mem2 (k := 2) (i := 189) rfl rfl)) <|
  tb_alc (Or.inl (tb_mem2 (k := 2) (i := 190) rfl rfl)) <|
  tb_alc (Or.inl (tb_mem2 (k := 2) (i := 191) rfl rfl)) <|
  tb_alc (Or.inl (tb_mem2 (k := 2) (i := 163) rfl rfl)) <|
  tb_alc (Or.inl (tb_mem2 (k := 2) (i := 147) rfl rfl)) <|
  tb_alc (Or.inl (tb_mem2 (k := 2) (i := 182) rfl rfl)) <|
  tb_alc (Or.inl (tb_mem2 (k := 2) (i := 141) rfl rfl)) <|
  tb_alc (Or.inl (tb_mem2 (k := 2) (i := 142) rfl rfl)) <|
  tb_alc (Or.inl (tb_mem2 (k := 2) (i := 149) rfl rfl)) <|
  tb_alc (Or.inl (tb_mem2 (k := 2) (i := 150) rfl rfl)) <|
  tb_alc (Or.inl (tb_mem2 (k := 2) (i := 151) rfl rfl)) <|
  tb_alc (Or.inl (tb_mem2 (k := 2) (i := 153) rfl rfl)) <|
  tb_alc (Or.inl (tb_mem2 (k := 2) (i := 155) rfl rfl)) <|
  tb_alc (Or.inl (tb_mem2 (k := 2) (i := 157) rfl rfl)) <|
  tb_alc (Or.inr (by first | exact .head _ | exact .tail _ (.head _) | exact .tail _ (.tail _ (.head _)) | exact .tail _ (.tail _ (.tail _ (.head _))))) <|
  tb_alc (Or.inr (by first | exact .head _ | exact .tail _ (.head _) | exact .tail _ (.tail _ (.head _)) | exact .tail _ (.tail _ (.tail _ (.head _))))) <|
  tb_alc (Or.inl (tb_mem2 (k := 2) (i := 161) rfl rfl)) <|
  tb_alc (Or.inl (tb_mem2 (k := 2) (i := 160) rfl rfl)) <|
  tb_alc (Or.inl (tb_mem2 (k := 2) (i := 159) rfl rfl)) <|
  tb_aln
theorem tb_ex1 : ∀ w ∈ Bundle.ownAtoms0 (tb_own 10) 76 (tb_xn 1) ["java/lang/RuntimeException", "java/lang/Exception"], w ∈ tb_ws ∨ w ∈ am_zw := 
  tb_alc (Or.inl (tb_mem2 (k := 1) (i := 15) rfl rfl)) <|
  tb_alc (Or.inl (tb_mem2 (k := 2) (i := 162) rfl rfl)) <|
  tb_alc (Or.inl (tb_mem2 (k := 2) (i := 171) rfl rfl)) <|
  tb_alc (Or.inl (tb_mem2 (k := 2) (i := 176) rfl rfl)) <|
  tb_alc (Or.inl (tb_mem2 (k := 2) (i := 179) rfl rfl)) <|
  tb_alc (Or.inl (tb_mem2 (k := 2) (i := 181) rfl rfl)) <|
  tb_alc (Or.inl (tb_mem2 (k := 2) (i := 163) rfl rfl)) <|
  tb_alc (Or.inl (tb_mem2 (k := 2) (i := 164) rfl rfl)) <|
  tb_alc (Or.inl (tb_mem2 (k := 1) (i := 29) rfl rfl)) <|
  tb_alc (Or.inl (tb_mem2 (k := 1) (i := 30) rfl rfl)) <|
  tb_alc (Or.inl (tb_mem2 (k := 2) (i := 165) rfl rfl)) <|
  tb_alc (Or.inl (tb_mem2 (k := 2) (i := 170) rfl rfl)) <|
  tb_alc (Or.inl (tb_mem2 (k := 2) (i := 177) rfl rfl)) <|
  tb_alc (Or.inl (tb_mem2 (k := 2) (i := 193) rfl rfl)) <|
  tb_alc (Or.inl (tb_mem2 (k := 2) (i := 152) rfl rfl)) <|
  tb_alc (Or.inl (tb_mem2 (k := 2) (i := 194) rfl rfl)) <|
  tb_alc (Or.inl (tb_mem2 (k := 2) (i := 154) rfl rfl)) <|
  tb_alc (Or.inl (tb_mem2 (k := 2) (i := 195) rfl rfl)) <|
  tb_alc (Or.inl (tb_mem2 (k := 2) (i := 156) rfl rfl)) <|
  tb_alc (Or.inl (tb_mem2 (k := 2) (i := 166) rfl rfl)) <|
  tb_alc (Or.inr (by first | exact .head _ | exact .tail _ (.head _) | exact .tail _ (.tail _ (.head _)) | exact .tail _ (.tail _ (.tail _ (.head _))))) <|
  tb_alc (Or.inl (tb_mem2 (k := 2) (i := 168) rfl rfl)) <|
  tb_alc (Or.inr (by first | exact .head _ | exact .tail _ (.head _) | exact .tail _ (.tail _ (.head _)) | exact .tail _ (.tail _ (.tail _ (.head _))))) <|
  tb_alc (Or.inl (tb_mem2 (k := 2) (i := 158) rfl rfl)) <|
  tb_alc (Or.inl (tb_mem2 (k := 2) (i := 218) rfl rfl)) <|
  tb_alc (Or.inl (tb_mem2 (k := 2) (i := 219) rfl rfl)) <|
  tb_alc (Or.inl (tb_mem2 (k := 2) (i := 220) rfl rfl)) <|
  tb_alc (Or.inl (tb_mem2 (k := 2) (i := 186) rfl rfl)) <|
  tb_alc (Or.inl (tb_mem2 (k := 2) (i := 143) rfl rfl)) <|
  tb_alc (Or.inl (tb_mem2 (k := 2) (i := 186) rfl rfl)) <|
  tb_alc (Or.inl (tb_mem2 (k := 2) (i := 187) rfl rfl)) <|
  tb_alc (Or.inl (tb_mem2 (k := 2) (i := 188) rfl rfl)) <|
  tb_alc (Or.inl (tb_mem2 (k := 2) (i := 189) rfl rfl)) <|
  tb_alc (Or.inl (tb_mem2 (k := 2) (i := 145) rfl rfl)) <|
  tb_alc (Or.inl (tb_mem2 (k := 2) (i := 189) rfl rfl)) <|
  tb_alc (Or.inl (tb_mem2 (k := 2) (i := 190) rfl rfl)) <|
  tb_alc (Or.inl (tb_mem2 (k := 2) (i := 191) rfl rfl)) <|
  tb_alc (Or.inl (tb_mem2 (k := 2) (i := 163) rfl rfl)) <|
  tb_alc (Or.inl (tb_mem2 (k := 2) (i := 147) rfl rfl)) <|
  tb_alc (Or.inl (tb_mem2 (k := 2) (i := 217) rfl rfl)) <|
  tb_alc (Or.inl (tb_mem2 (k := 2) (i := 209) rfl rfl)) <|
  tb_alc (Or.inl (tb_mem2 (k := 2) (i := 210) rfl rfl)) <|
  tb_alc (Or.inl (tb_mem2 (k := 2) (i := 211) rfl rfl)) <|
  tb_alc (Or.inl (tb_mem2 (k := 2) (i := 173) rfl rfl)) <|
  tb_alc (Or.inl (tb_mem2 (k := 2) (i := 212) rfl rfl)) <|
  tb_alc (Or.inl (tb_mem2 (k := 2) (i := 213) rfl rfl)) <|
  tb_alc (Or.inl (tb_mem2 (k := 2) (i := 214) rfl rfl)) <|
  tb_alc (Or.inl (tb_mem2 (k := 2) (i := 215) rfl rfl)) <|
  tb_alc (Or.inr (by first | exact .head _ | exact .tail _ (.head _) | exact .tail _ (.tail _ (.head _)) | exact .tail _ (.tail _ (.tail _ (.head _))))) <|
  tb_alc (Or.inr (by first | exact .head _ | exact .tail _ (.head _) | exact .tail _ (.tail _ (.head _)) | exact .tail _ (.tail _ (.tail _ (.head _))))) <|
  tb_alc (Or.inl (tb_mem2 (k := 2) (i := 161) rfl rfl)) <|
  tb_alc (Or.inl (tb_mem2 (k := 2) (i := 160) rfl rfl)) <|
  tb_alc (Or.inl (tb_mem2 (k := 2) (i := 216) rfl rfl)) <|
  tb_aln
theorem tb_ex2 : ∀ w ∈ Bundle.ownAtoms0 (tb_own 10) 136 (tb_xn 2) ["java/lang/RuntimeException", "java/lang/Exception"], w ∈ tb_ws ∨ w ∈ am_zw := 
  tb_alc (Or.inl (tb_mem2 (k := 1) (i := 15) rfl rfl)) <|
  tb_alc (Or.inl (tb_mem2 (k := 2) (i := 162) rfl rfl)) <|
  tb_alc (Or.inl (tb_mem2 (k := 2) (i := 171) rfl rfl)) <|
  tb_alc (Or.inl (tb_mem2 (k := 2) (i := 176) rfl rfl)) <|
  tb_alc (Or.inl (tb_mem2 (k := 2) (i := 179) rfl rfl)) <|
  tb_alc (Or.inl (tb_mem2 (k := 2) (i := 181) rfl rfl)) <|
  tb_alc (Or.inl (tb_mem2 (k := 2) (i := 163) rfl rfl)) <|
  tb_alc (Or.inl (tb_mem2 (k := 2) (i := 164) rfl rfl)) <|
  tb_alc (Or.inl (tb_mem2 (k := 1) (i := 29) rfl rfl)) <|
  tb_alc (Or.inl (tb_mem2 (k := 1) (i := 30) rfl rfl)) <|
  tb_alc (Or.inl (tb_mem2 (k := 2) (i := 165) rfl rfl)) <|
  tb_alc (Or.inl (tb_mem2 (k := 2) (i := 170) rfl rfl)) <|
  tb_alc (Or.inl (tb_mem2 (k := 2) (i := 177) rfl rfl)) <|
  tb_alc (Or.inl (tb_mem2 (k := 2) (i := 193) rfl rfl)) <|
  tb_alc (Or.inl (tb_mem2 (k := 2) (i := 152) rfl rfl)) <|
  tb_alc (Or.inl (tb_mem2 (k := 2) (i := 194) rfl rfl)) <|
  tb_alc (Or.inl (tb_mem2 (k := 2) (i := 154) rfl rfl)) <|
  tb_alc (Or.inl (tb_mem2 (k := 2) (i := 195) rfl rfl)) <|
  tb_alc (Or.inl (tb_mem2 (k := 2) (i := 156) rfl rfl)) <|
  tb_alc (Or.inl (tb_mem2 (k := 2) (i := 166) rfl rfl)) <|
  tb_alc (Or.inr (by first | exact .head _ | exact .tail _ (.head _) | exact .tail _ (.tail _ (.head _)) | exact .tail _ (.tail _ (.tail _ (.head _))))) <|
  tb_alc (Or.inl (tb_mem2 (k := 2) (i := 168) rfl rfl)) <|
  tb_alc (Or.inr (by first | exact .head _ | exact .tail _ (.head _) | exact .tail _ (.tail _ (.head _)) | exact .tail _ (.tail _ (.tail _ (.head _))))) <|
  tb_alc (Or.inl (tb_mem2 (k := 2) (i := 158) rfl rfl)) <|
  tb_alc (Or.inl (tb_mem2 (k := 4) (i := 129) rfl rfl)) <|
  tb_alc (Or.inl (tb_mem2 (k := 4) (i := 130) rfl rfl)) <|
  tb_alc (Or.inl (tb_mem2 (k := 4) (i := 131) rfl rfl)) <|
  tb_alc (Or.inl (tb_mem2 (k := 2) (i := 186) rfl rfl)) <|
  tb_alc (Or.inl (tb_mem2 (k := 2) (i := 143) rfl rfl)) <|
  tb_alc (Or.inl (tb_mem2 (k := 2) (i := 186) rfl rfl)) <|
  tb_alc (Or.inl (tb_mem2 (k := 2) (i := 187) rfl rfl)) <|
  tb_alc (Or.inl (tb_mem2 (k := 2) (i := 188) rfl rfl)) <|
  tb_alc (Or.inl (tb_mem2 (k := 2) (i := 189) rfl rfl)) <|
  tb_alc (Or.inl (tb_mem2 (k := 2) (i := 145) rfl rfl)) <|
  tb_alc (Or.inl (tb_mem2 (k := 2) (i := 189) rfl rfl)) <|
  tb_alc (Or.inl (tb_mem2 (k := 2) (i := 190) rfl rfl)) <|
  tb_alc (Or.inl (tb_mem2 (k := 2) (i := 191) rfl rfl)) <|
  tb_alc (Or.inl (tb_mem2 (k := 2) (i := 163) rfl rfl)) <|
  tb_alc (Or.inl (tb_mem2 (k := 2) (i := 147) rfl rfl)) <|
  tb_alc (Or.inl (tb_mem2 (k := 4) (i := 128) rfl rfl)) <|
  tb_alc (Or.inl (tb_mem2 (k := 4) (i := 120) rfl rfl)) <|
  tb_alc (Or.inl (tb_mem2 (k := 4) (i := 121) rfl rfl)) <|
  tb_alc (Or.inl (tb_mem2 (k := 4) (i := 122) rfl rfl)) <|
  tb_alc (Or.inl (tb_mem2 (k := 2) (i := 175) rfl rfl)) <|
  tb_alc (Or.inl (tb_mem2 (k := 4) (i := 123) rfl rfl)) <|
  tb_alc (Or.inl (tb_mem2 (k := 4) (i := 124) rfl rfl)) <|
  tb_alc (Or.inl (tb_mem2 (k := 4) (i := 125) rfl rfl)) <|
  tb_alc (Or.inl (tb_mem2 (k := 4) (i := 126) rfl rfl)) <|
  tb_alc (Or.inr (by first | exact .head _ | exact .tail _ (.head _) | exact .tail _ (.tail _ (.head _)) | exact .tail _ (.tail _ (.tail _ (.head _))))) <|
  tb_alc (Or.inr (by first | exact .head _ | exact .tail _ (.head _) | exact .tail _ (.tail _ (.head _)) | exact .tail _ (.tail _ (.tail _ (.head _))))) <|
  tb_alc (Or.inl (tb_mem2 (k := 2) (i := 161) rfl rfl)) <|
  tb_alc (Or.inl (tb_mem2 (k := 2) (i := 160) rfl rfl)) <|
  tb_alc (Or.inl (tb_mem2 (k := 4) (i := 127) rfl rfl)) <|
  tb_aln
theorem tb_ex3 : ∀ w ∈ Bundle.ownAtoms0 (tb_own 10) 182 (tb_xn 3) ["java/lang/RuntimeException", "java/lang/Exception"], w ∈ tb_ws ∨ w ∈ am_zw := 
  tb_alc (Or.inl (tb_mem2 (k := 1) (i := 15) rfl rfl)) <|
  tb_alc (Or.inl (tb_mem2 (k := 2) (i := 162) rfl rfl)) <|
  tb_alc (Or.inl (tb_mem2 (k := 2) (i := 171) rfl rfl)) <|
  tb_alc (Or.inl (tb_mem2 (k := 2) (i := 176) rfl rfl)) <|
  tb_alc (Or.inl (tb_mem2 (k := 2) (i := 179) rfl rfl)) <|
  tb_alc (Or.inl (tb_mem2 (k := 2) (i := 181) rfl rfl)) <|
  tb_alc (Or.inl (tb_mem2 (k := 2) (i := 163) rfl rfl)) <|
  tb_alc (Or.inl (tb_mem2 (k := 2) (i := 164) rfl rfl)) <|
  tb_alc (Or.inl (tb_mem2 (k := 1) (i := 29) rfl rfl)) <|
  tb_alc (Or.inl (tb_mem2 (k := 1) (i := 30) rfl rfl)) <|
  tb_alc (Or.inl (tb_mem2 (k := 2) (i := 165) rfl rfl)) <|
  tb_alc (Or.inl (tb_mem2 (k := 2) (i := 170) rfl rfl)) <|
  tb_alc (Or.inl (tb_mem2 (k := 2) (i := 177) rfl rfl)) <|
  tb_alc (Or.inl (tb_mem2 (k := 2) (i := 193) rfl rfl)) <|
  tb_alc (Or.inl (tb_mem2 (k := 2) (i := 152) rfl rfl)) <|
  tb_alc (Or.inl (tb_mem2 (k := 2) (i := 194) rfl rfl)) <|
  tb_alc (Or.inl (tb_mem2 (k := 2) (i := 154) rfl rfl)) <|
  tb_alc (Or.inl (tb_mem2 (k := 2) (i := 195) rfl rfl)) <|
  tb_alc (Or.inl (tb_mem2 (k := 2) (i := 156) rfl rfl)) <|
  tb_alc (Or.inl (tb_mem2 (k := 2) (i := 166) rfl rfl)) <|
  tb_alc (Or.inr (by first | exact .head _ | exact .tail _ (.head _) | exact .tail _ (.tail _ (.head _)) | exact .tail _ (.tail _ (.tail _ (.head _))))) <|
  tb_alc (Or.inl (tb_mem2 (k := 2) (i := 168) rfl rfl)) <|
  tb_alc (Or.inr (by first | exact .head _ | exact .tail _ (.head _) | exact .tail _ (.tail _ (.head _)) | exact .tail _ (.tail _ (.tail _ (.head _))))) <|
  tb_alc (Or.inl (tb_mem2 (k := 2) (i := 158) rfl rfl)) <|
  tb_alc (Or.inl (tb_mem2 (k := 4) (i := 159) rfl rfl)) <|
  tb_alc (Or.inl (tb_mem2 (k := 4) (i := 160) rfl rfl)) <|
  tb_alc (Or.inl (tb_mem2 (k := 4) (i := 161) rfl rfl)) <|
  tb_alc (Or.inl (tb_mem2 (k := 2) (i := 186) rfl rfl)) <|
  tb_alc (Or.inl (tb_mem2 (k := 2) (i := 143) rfl rfl)) <|
  tb_alc (Or.inl (tb_mem2 (k := 2) (i := 186) rfl rfl)) <|
  tb_alc (Or.inl (tb_mem2 (k := 2) (i := 187) rfl rfl)) <|
  tb_alc (Or.inl (tb_mem2 (k := 2) (i := 188) rfl rfl)) <|
  tb_alc (Or.inl (tb_mem2 (k := 2) (i := 189) rfl rfl)) <|
  tb_alc (Or.inl (tb_mem2 (k := 2) (i := 145) rfl rfl)) <|
  tb_alc (Or.inl (tb_mem2 (k := 2) (i := 189) rfl rfl)) <|
  tb_alc (Or.inl (tb_mem2 (k := 2) (i := 190) rfl rfl)) <|
  tb_alc (Or.inl (tb_mem2 (k := 2) (i := 191) rfl rfl)) <|
  tb_alc (Or.inl (tb_mem2 (k := 2) (i := 163) rfl rfl)) <|
  tb_alc (Or.inl (tb_mem2 (k := 2) (i := 147) rfl rfl)) <|
  tb_alc (Or.inl (tb_mem2 (k := 4) (i := 158) rfl rfl)) <|
  tb_alc (Or.inl (tb_mem2 (k := 4) (i := 150) rfl rfl)) <|
  tb_alc (Or.inl (tb_mem2 (k := 4) (i := 151) rfl rfl)) <|
  tb_alc (Or.inl (tb_mem2 (k := 4) (i := 152) rfl rfl)) <|
  tb_alc (Or.inl (tb_mem2 (k := 2) (i := 174) rfl rfl)) <|
  tb_alc (Or.inl (tb_mem2 (k := 4) (i := 153) rfl rfl)) <|
  tb_alc (Or.inl (tb_mem2 (k := 4) (i := 154) rfl rfl)) <|
  tb_alc (Or.inl (tb_mem2 (k := 4) (i := 155) rfl rfl)) <|
  tb_alc (Or.inl (tb_mem2 (k := 4) (i := 156) rfl rfl)) <|
  tb_alc (Or.inr (by first | exact .head _ | exact .tail _ (.head _) | exact .tail _ (.tail _ (.head _)) | exact .tail _ (.tail _ (.tail _ (.head _))))) <|
  tb_alc (Or.inr (by first | exact .head _ | exact .tail _ (.head _) | exact .tail _ (.tail _ (.head _)) | exact .tail _ (.tail _ (.tail _ (.head _))))) <|
  tb_alc (Or.inl (tb_mem2 (k := 2) (i := 161) rfl rfl)) <|
  tb_alc (Or.inl (tb_mem2 (k := 2) (i := 160) rfl rfl)) <|
  tb_alc (Or.inl (tb_mem2 (k := 4) (i := 157) rfl rfl)) <|
  tb_aln
set_option maxRecDepth 100000 in
theorem tb_hk : (List.range 181).all (fun j => (am_hs (tb_mt j)).all fun q => decide ((tb_pl (am_o (tb_mt j)) q.2.2.2).1 = 9)) = true := by decide +kernel
set_option maxRecDepth 100000 in
theorem tb_kk : tb_KC.all (fun q => match q.2.2.1 with | .int x => tb_at q.2.2.2 (.constant (tb_own q.1) q.2.1 x) | .long x => tb_at q.2.2.2 (.constantLong (tb_own q.1) q.2.1 x) | _ => false) = true := by decide +kernel
theorem tb_kcw {o idx : Nat} {v : Value} (h : tb_kc o idx = some v) : match v with | .int x => Cond.constant (tb_own o) idx x ∈ tb_ws | .long x => Cond.constantLong (tb_own o) idx x ∈ tb_ws | _ => False := by
  unfold tb_kc at h
  split at h
  · rename_i q hq
    have h1 := List.mem_of_find?_eq_some hq
    have h2 := List.find?_some hq
    have h3 := List.all_eq_true.mp tb_kk q h1
    obtain ⟨q1, q2, q3, q4⟩ := q
    rw [Bool.and_eq_true] at h2
    have h4 : q1 = o := by simpa using h2.1
    have h5 : q2 = idx := by simpa using h2.2
    cases h
    subst h4
    subst h5
    dsimp only at h3
    split at h3
    · exact tb_mem h3
    · exact tb_mem h3
    · cases h3
  · cases h
theorem tb_hs {j : Nat} {q : Nat × Nat × Nat × Nat} (h : q ∈ am_hs (tb_mt j)) : (tb_pl (am_o (tb_mt j)) q.2.2.2).1 = 9 := by
  by_cases hj : j < 181
  · have := List.all_eq_true.mp tb_hk j (List.mem_range.mpr hj)
    exact of_decide_eq_true (List.all_eq_true.mp this q h)
  · have : tb_mt j = mt_La_law := by
      unfold tb_mt
      have hl : tb_M.length = 181 := by decide +kernel
      rw [List.getD_eq_getElem?_getD, List.getElem?_eq_none (by omega)]
      rfl
    rw [this] at h
    cases h
theorem tb_WF : am_WF tb_G tb_cl tb_own tb_xn "AttributeLink" tb_ws := by
  refine ⟨fun w hw => tb_gw hw, ?_, ?_, ?_, ?_, ⟨tb_s12, tb_s13, tb_s14⟩, fun o idx x h => tb_kcw (v := .int x) h, fun o idx x h => tb_kcw (v := .long x) h, ?_, ?_, ?_, ?_, ?_, ?_, ?_, ?_, ?_, ?_, ?_⟩
  · intro o idx ci fi h
    obtain ⟨q, hq⟩ := tb_get (e := (1, ci, fi, 0)) h (by show (1 : Nat) ≠ 0; decide)
    have hq : (decide (ci < 12) && tb_at q (.fieldLink (tb_own o) idx (tb_own ci) (tb_T ci fi).2.1 (tb_T ci fi).2.2.1)) = true := hq
    rw [Bool.and_eq_true] at hq
    exact tb_aok (of_decide_eq_true hq.1)
  · intro o idx ci x y h
    obtain ⟨q, hq⟩ := tb_get (e := (3, ci, x, y)) h (by show (3 : Nat) ≠ 0; decide)
    have hq : (decide (ci < 12) && tb_at q (.classLink (tb_own o) idx (tb_own ci)) && tb_at (tb_cp ci).1 (.instantiable (tb_own ci) (tb_nf ci)) && tb_at (tb_cp ci).2.1 (.initialized (tb_own ci)) && decide (x = 0 ∨ (x = 103 ∧ ci = 7) ∨ (x = 104 ∧ ci = 0))) = true := hq
    rw [Bool.and_eq_true, Bool.and_eq_true, Bool.and_eq_true, Bool.and_eq_true] at hq
    exact ⟨tb_aok (of_decide_eq_true hq.1.1.1.1), tb_mem hq.1.1.1.2, tb_mem hq.1.1.2, tb_mem hq.1.2⟩
  · intro o idx ci t y h ht
    obtain ⟨q, hq⟩ := tb_get (e := (3, ci, t, y)) h (by show (3 : Nat) ≠ 0; decide)
    have hq : (decide (ci < 12) && tb_at q (.classLink (tb_own o) idx (tb_own ci)) && tb_at (tb_cp ci).1 (.instantiable (tb_own ci) (tb_nf ci)) && tb_at (tb_cp ci).2.1 (.initialized (tb_own ci)) && decide (t = 0 ∨ (t = 103 ∧ ci = 7) ∨ (t = 104 ∧ ci = 0))) = true := hq
    rw [Bool.and_eq_true, Bool.and_eq_true, Bool.and_eq_true, Bool.and_eq_true] at hq
    have hc := tb_mem hq.1.1.1.2
    have hd := of_decide_eq_true hq.2
    rcases ht with rfl | rfl
    · have : ci = 7 := by omega
      subst this
      exact ⟨hc, tb_s10⟩
    · have : ci = 0 := by omega
      subst this
      exact ⟨hc, tb_s11⟩
  · intro t ht
    rcases ht with rfl | rfl
    · exact tb_aok (ci := 7) (by decide)
    · exact tb_aok (ci := 0) (by decide)
  · intro o idx j z h
    obtain ⟨q, hq⟩ := tb_get (e := (2, j, 0, z)) h (by show (2 : Nat) ≠ 0; decide)
    have hq : (decide (j < 180) && decide (am_hs (tb_mt j) = []) && decide (am_o (tb_mt j) < 12) && tb_at q (.methodLink (tb_own o) idx (am_y (tb_mt j))) && tb_at (tb_mp j).2.2.1 (.instanceMethod (am_y (tb_mt j))) && tb_at (tb_mp j).2.2.2 (.selects (am_y (tb_mt j)).cls (am_y (tb_mt j)) (am_y (tb_mt j)))) = true := hq
    rw [Bool.and_eq_true, Bool.and_eq_true, Bool.and_eq_true, Bool.and_eq_true, Bool.and_eq_true] at hq
    have ho : am_o (tb_mt j) < 12 := of_decide_eq_true hq.1.1.1.2
    exact ⟨tb_okm (of_decide_eq_true hq.1.1.1.1.1), of_decide_eq_true hq.1.1.1.1.2, tb_clo ho, (by show am_o (tb_mt j) < 100; omega), tb_mem hq.1.1.2, tb_mem hq.1.2, tb_mem hq.2⟩
  · intro o idx j z h
    obtain ⟨q, hq⟩ := tb_get (e := (2, j, 3, z)) h (by show (2 : Nat) ≠ 0; decide)
    exact absurd hq Bool.false_ne_true
  · intro o idx j z h
    obtain ⟨q, hq⟩ := tb_get (e := (2, j, 1, z)) h (by show (2 : Nat) ≠ 0; decide)
    have hq : (decide (j < 180) && tb_at q (.methodLink (tb_own o) idx (am_y (tb_mt j))) && tb_at (tb_mp j).2.2.1 (.static (am_y (tb_mt j)))) = true := hq
    rw [Bool.and_eq_true, Bool.and_eq_true] at hq
    exact ⟨tb_okm (of_decide_eq_true hq.1.1), tb_mem hq.1.2, tb_mem hq.2⟩
  · intro o idx j z h
    obtain ⟨q, hq⟩ := tb_get (e := (2, j, 4, z)) h (by show (2 : Nat) ≠ 0; decide)
    have hq : (decide (j < 180) && tb_at q (.methodLinkNest (tb_own o) idx (am_y (tb_mt j)) "AttributeLink") && tb_at (tb_mp j).2.2.1 (.static (am_y (tb_mt j)))) = true := hq
    rw [Bool.and_eq_true, Bool.and_eq_true] at hq
    exact ⟨tb_okm (of_decide_eq_true hq.1.1), tb_mem hq.1.2, tb_mem hq.2⟩
  · intro o idx j z h
    obtain ⟨q, hq⟩ := tb_get (e := (2, j, 2, z)) h (by show (2 : Nat) ≠ 0; decide)
    have hq : (decide (j < 180) && decide (am_hs (tb_mt j) = []) && decide (am_rt (tb_mt j) = none) && decide ((am_y (tb_mt j)).name = "<init>") && tb_at q (.methodLink (tb_own o) idx (am_y (tb_mt j))) && tb_at (tb_mp j).2.2.1 (.instanceMethod (am_y (tb_mt j)))) = true := hq
    rw [Bool.and_eq_true, Bool.and_eq_true, Bool.and_eq_true, Bool.and_eq_true, Bool.and_eq_true] at hq
    exact ⟨tb_okm (of_decide_eq_true hq.1.1.1.1.1), of_decide_eq_true hq.1.1.1.1.2, of_decide_eq_true hq.1.1.1.2, of_decide_eq_true hq.1.1.2, tb_mem hq.1.2, tb_mem hq.2⟩
  · intro o idx x y z h
    obtain ⟨q, hq⟩ := tb_get (e := (7, x, y, z)) h (by show (7 : Nat) ≠ 0; decide)
    have hq : tb_at q (.methodLink (tb_own o) idx Lib.objectInit) = true := hq
    exact ⟨tb_mem hq, tb_s0, tb_s1⟩
  · intro o idx x y z h
    obtain ⟨q, hq⟩ := tb_get (e := (8, x, y, z)) h (by show (8 : Nat) ≠ 0; decide)
    have hq : tb_at q (.methodLink (tb_own o) idx arraycopyName) = true := hq
    exact ⟨tb_mem hq, tb_s2, tb_s3, tb_s4⟩
  · intro o idx x y z h
    obtain ⟨q, hq⟩ := tb_get (e := (10, x, y, z)) h (by show (10 : Nat) ≠ 0; decide)
    have hq : tb_at q (.methodLink (tb_own o) idx Lib.Math.min.name) = true := hq
    exact ⟨tb_mem hq, tb_s5, tb_s9, tb_s6⟩
  · intro o idx x y z h
    obtain ⟨q, hq⟩ := tb_get (e := (11, x, y, z)) h (by show (11 : Nat) ≠ 0; decide)
    have hq : tb_at q (.methodLink (tb_own o) idx Lib.Math.max.name) = true := hq
    exact ⟨tb_mem hq, tb_s7, tb_s9, tb_s8⟩
  · intro j q hq
    have h9 : (tb_pl (am_o (tb_mt j)) q.2.2.2).1 = 9 := tb_hs hq
    generalize he : tb_pl (am_o (tb_mt j)) q.2.2.2 = e at h9
    obtain ⟨e1, e2, e3, e4⟩ := e
    dsimp only at h9
    subst h9
    obtain ⟨r, hr⟩ := tb_get he (by show (9 : Nat) ≠ 0; decide)
    have hr : (decide (e2 < 4) && decide (q.2.2.2 ≠ 0) && tb_at r (.classLink (tb_own (am_o (tb_mt j))) q.2.2.2 (tb_xn e2))) = true := hr
    rw [Bool.and_eq_true, Bool.and_eq_true] at hr
    refine ⟨of_decide_eq_true hr.1.2, ?_, ?_, fun x hx => tb_sc hx⟩
    · show Cond.classLink (tb_own (am_o (tb_mt j))) q.2.2.2 (tb_xn (tb_pl (am_o (tb_mt j)) q.2.2.2).2.1) ∈ tb_ws
      rw [he]
      exact tb_mem hr.2
    · show (tb_pl (am_o (tb_mt j)) q.2.2.2).2.1 < 4
      rw [he]
      exact of_decide_eq_true hr.1.1
  · intro o idx x ic z h
    obtain ⟨q, hq⟩ := tb_get (e := (5, x, ic, z)) h (by show (5 : Nat) ≠ 0; decide)
    have hq : (decide (x < 4) && tb_at q (.classLink (tb_own o) idx (tb_xn x)) && Bundle.fit (tb_xn x) && decide (o = 10) && decide ((x = 0 ∧ ic = 69) ∨ (x = 1 ∧ ic = 76) ∨ (x = 2 ∧ ic = 136) ∨ (x = 3 ∧ ic = 182))) = true := hq
    rw [Bool.and_eq_true, Bool.and_eq_true, Bool.and_eq_true, Bool.and_eq_true] at hq
    have hx := of_decide_eq_true hq.1.1.1.1
    have ho := of_decide_eq_true hq.1.2
    subst ho
    refine ⟨hx, tb_mem hq.1.1.1.2, tb_si hx, hq.1.1.2, ?_⟩
    rcases of_decide_eq_true hq.2 with ⟨rfl, rfl⟩ | ⟨rfl, rfl⟩ | ⟨rfl, rfl⟩ | ⟨rfl, rfl⟩
    · exact tb_ex0
    · exact tb_ex1
    · exact tb_ex2
    · exact tb_ex3
end
section
/-! Part 40: the claim out of what the machine of part 10 does at the law -/
def zw_S (b : Nat) (name desc : String) (U : State) : Prop := ∃ (c : Nat) (k : Class) (i : Nat) (f : Field) (a : Nat) (cell : Cell) (v : Value),
  U.vm.findClass Bundle.tN = some c ∧ U.fieldFound? Bundle.tN name desc = some (c, k, i, f) ∧ f.isStatic = true ∧ k.statics = some a ∧ a < b ∧ U.heap[a]? = some cell ∧ cell.vm.isStatics = true ∧ cell.cls = c ∧ f.slot < cell.slots.size ∧ k.staticTypes[f.slot]? = some f.type ∧ cell.slots[f.slot]? = some v ∧ v.isRef = true
theorem zw_of {args : Array Value} {s : State} {name desc : String} (h1 : (Cond.laysStatic Bundle.tN name desc).before args s = true) (h2 : (Cond.isRef (.static Bundle.tN name desc)).before args s = true) : zw_S s.heap.size name desc s := by
  obtain ⟨c, k, i, f, a, cell, hc, hi, hst, ha, hcell, hs, hcls, hlt, hty⟩ := Cond.laysStatic_spec h1
  obtain ⟨u, hu⟩ := Cond.staticRefV hi hst ha hcell hs h2
  exact ⟨c, k, i, f, a, cell, u.v, hc, hi, hst, ha, (Array.getElem?_eq_some_iff.mp hcell).1, hcell, hs, hcls, hlt, hty, hu, u.ok⟩
theorem zw_mv {b : Nat} {name desc : String} {s U : State} (h : zw_S b name desc s) (hal : s.vm.Alike U.vm) (hk : ∀ q : Nat, q < s.heap.size → ¬ b ≤ q → U.heap[q]? = s.heap[q]?) : zw_S b name desc U := by
  obtain ⟨c, k, i, f, a, cell, v, hc, hi, hst, ha, hab, hcell, hs, hcls, hlt, hty, hv, hr⟩ := h
  obtain ⟨k', hi', hek⟩ := State.fieldFound?_setVm hal hi
  exact ⟨c, k', i, f, a, cell, v, by rw [hal.findClass]; exact hc, hi', hst, by rw [hek]; exact ha, hab, by rw [hk a (Array.getElem?_eq_some_iff.mp hcell).1 (by omega)]; exact hcell, hs, hcls, hlt, by rw [hek]; exact hty, hv, hr⟩
theorem zw_lays {b : Nat} {name desc : String} {s : State} {a9 : Array Value} (h : zw_S b name desc s) : (Cond.laysStatic Bundle.tN name desc).before a9 s = true := by
  obtain ⟨c, k, i, f, a, cell, v, hc, hi, hst, ha, hab, hcell, hs, hcls, hlt, hty, hv, hr⟩ := h
  exact Cond.laysStatic_of hc hi hst ha hcell hs hcls hlt hty
theorem zw_ref {b : Nat} {name desc : String} {s : State} {a9 : Array Value} (h : zw_S b name desc s) : (Cond.isRef (.static Bundle.tN name desc)).before a9 s = true := by
  obtain ⟨c, k, i, f, a, cell, v, hc, hi, hst, ha, hab, hcell, hs, hcls, hlt, hty, hv, hr⟩ := h
  have he : (Term.static Bundle.tN name desc).eval a9 s none [] s = some v := by
    simp [Term.eval, State.fieldNamed?, hi, hst, ha, hcell, hs, hv]
  simp only [Cond.before, Cond.holds, Cond.value]
  rw [he]
  cases v <;> simp [Value.isRef] at hr <;> rfl
/-- what stays true of the state: two statics of Throwable, the exceptions' classes apart -/
def zw_Z (b : Nat) (U : State) : Prop := zw_S b "UNASSIGNED_STACK" Bundle.steD U ∧ zw_S b "SUPPRESSED_SENTINEL" Bundle.listD U ∧ ∀ x y, x < 4 → y < 4 → x ≠ y → va_Nc (tb_xn x) (tb_xn y) U
theorem zw_Zm {b : Nat} (s U : State) (h : zw_Z b s) (hal : s.vm.Alike U.vm) (hk : ∀ q : Nat, q < s.heap.size → ¬ b ≤ q → U.heap[q]? = s.heap[q]?) : zw_Z b U :=
  ⟨zw_mv h.1 hal hk, zw_mv h.2.1 hal hk, fun x y hx hy hxy => (h.2.2 x y hx hy hxy).moved hal⟩
theorem zw_Z2 {b : Nat} (s : State) (h : zw_Z b s) (a9 : Array Value) : ∀ w ∈ am_zw, w.before a9 s = true := by
  intro w hw
  unfold am_zw at hw
  simp only [List.mem_cons, List.not_mem_nil, or_false] at hw
  rcases hw with rfl | rfl | rfl | rfl
  · exact zw_ref h.1
  · exact zw_ref h.2.1
  · exact zw_lays h.1
  · exact zw_lays h.2.1
/-- the exceptions' classes apart, out of the Statement's own words -/
theorem zw_nc {args : Array Value} {s : State} (h : ∀ w ∈ flatC (Jvm.Cond.and given_1 narrow_1), w.before args s = true) : ∀ x y, x < 4 → y < 4 → x ≠ y → va_Nc (tb_xn x) (tb_xn y) s := by
  intro x y hx hy hxy
  match x, y, hx, hy, hxy with
  | 0, 1, _, _, _ => exact va_Nc.of (h _ (by decide +kernel))
  | 0, 2, _, _, _ => exact va_Nc.of (h _ (by decide +kernel))
  | 0, 3, _, _, _ => exact va_Nc.of (h _ (by decide +kernel))
  | 1, 0, _, _, _ => exact va_Nc.of (h _ (by decide +kernel))
  | 1, 2, _, _, _ => exact va_Nc.of (h _ (by decide +kernel))
  | 1, 3, _, _, _ => exact va_Nc.of (h _ (by decide +kernel))
  | 2, 0, _, _, _ => exact va_Nc.of (h _ (by decide +kernel))
  | 2, 1, _, _, _ => exact va_Nc.of (h _ (by decide +kernel))
  | 2, 3, _, _, _ => exact va_Nc.of (h _ (by decide +kernel))
  | 3, 0, _, _, _ => exact va_Nc.of (h _ (by decide +kernel))
  | 3, 1, _, _, _ => exact va_Nc.of (h _ (by decide +kernel))
  | 3, 2, _, _, _ => exact va_Nc.of (h _ (by decide +kernel))
  | n + 4, _, h, _, _ => exact absurd h (by omega)
  | _, n + 4, _, h, _ => exact absurd h (by omega)
  | 0, 0, _, _, h => exact absurd rfl h
  | 1, 1, _, _, h => exact absurd rfl h
  | 2, 2, _, _, h => exact absurd rfl h
  | 3, 3, _, _, h => exact absurd rfl h
/-- the heap as the law finds it: the script alone -/
def am_h0 (L : Nat) (xs : Nat → Int32) : am_H := ((am_u1 (fun _ => none) 0 (some (150, L)), fun _ _ => none, 0), 0, am_u1 (fun _ _ => 0) 0 xs, fun _ _ => 0)
/-- what is left to show: at every script the law's own code, run by the machine of part 10, ends with 1 -/
def am_goal : Prop := ∀ (L : Nat) (xs : Nat → Int32), L ≤ 3075 → am_T (am_C tb_G 12) tb_G mt_La_law (fun o _ => o = .inl (some (.int 1))) 0 [(0, .ref 0)] [] (am_h0 L xs) 0 0
def lw_P (b : Addr) (xs : List Int32) (args : Array Value) (s : State) : Prop := args = #[.ref b] ∧ s.IntsAt b xs ∧ xs.length ≤ 3075 ∧ (Jvm.Cond.and given_1 narrow_1).before args s = true
def lw_Q (_ : Array Value) (s : State) (o : Outcome) (t : State) : Prop := o = .returned (some (.int 1)) ∧ Framed s o t [] 601024 7293000
def lw_Z (below : List Frame) (a : Array Value) (s : State) : State → Prop := fun t => ∃ o, t.status = .running ∧ Ended t below o ∧ lw_Q a s o t
/-- an array class of a primitive type -/
theorem zw_arr {args : Array Value} {s : State} {t : FieldType} (h : (Cond.arrayClass t).before args s = true) (ht : ∀ C, t ≠ .object C) : ∃ cA, ArrOfT s cA t ∧ va_RA s cA t := by
  obtain ⟨cA, kA, comp, h1, h2, h3⟩ := Cond.arrayClass_spec h
  refine ⟨cA, fun N z => ⟨(fun k h => by cases h), kA, h2, comp, h3⟩, ?_⟩
  cases t with
  | object C => exact absurd rfl (ht C)
  | _ => exact h1
theorem zw_arrO {args : Array Value} {s : State} {C : String} (h : (Cond.arrayOver (.object C)).before args s = true) : ∃ cA, ArrOfT s cA (.object C) ∧ va_RA s cA (.object C) := by
  obtain ⟨comp, cA, kA, f4, -, f2, f3, f1⟩ := Cond.arrayOver_spec h
  exact ⟨cA, fun N z => ⟨(fun k h => by cases h), kA, f2, comp, f3⟩, kA, comp, f2, f3, f4, f1⟩
theorem zw_inst {c : Nat} (h : c < 12) : Cond.instantiable (tb_own c) (tb_nf c) ∈ tb_ws := match c, h with
  | 0, _ => tb_mem (p := 2017) (by decide +kernel)
  | 1, _ => tb_mem (p := 1032) (by decide +kernel)
  | 2, _ => tb_mem (p := 1178) (by decide +kernel)
  | 3, _ => tb_mem (p := 1081) (by decide +kernel)
  | 4, _ => tb_mem (p := 1120) (by decide +kernel)
  | 5, _ => tb_mem (p := 1184) (by decide +kernel)
  | 6, _ => tb_mem (p := 1087) (by decide +kernel)
  | 7, _ => tb_mem (p := 1094) (by decide +kernel)
  | 8, _ => tb_mem (p := 2010) (by decide +kernel)
  | 9, _ => tb_mem (p := 1071) (by decide +kernel)
  | 10, _ => tb_mem (p := 1024) (by decide +kernel)
  | 11, _ => tb_mem (p := 4196) (by decide +kernel)
  | n + 12, h => absurd h (by omega)
theorem zw_in1 : Cond.laysStatic Bundle.tN "UNASSIGNED_STACK" Bundle.steD ∈ lw_tbl := tb_seg_in (k := 2) (List.mem_of_getElem? (i := 167) (by decide +kernel))
theorem zw_in2 : Cond.laysStatic Bundle.tN "SUPPRESSED_SENTINEL" Bundle.listD ∈ lw_tbl := tb_seg_in (k := 2) (List.mem_of_getElem? (i := 169) (by decide +kernel))
theorem zw_cls {args : Array Value} {s : State} (hts : ∀ w ∈ tb_ws, w.before args s = true) : ∃ D : va_G, ∀ (c : Nat) (q : vw_C), tb_cl[c]? = some q → u_Kn s q.1 q.2.1 q.2.2 (D.1 c) (D.2 c) := by
  have one : ∀ c, c < 12 → ∃ (cC : ClassId) (iS : Nat → Nat), ∀ q : vw_C, tb_cl[c]? = some q → u_Kn s q.1 q.2.1 q.2.2 cC iS := by
    intro c hc
    obtain ⟨T, ty, h1, -, h3, -⟩ := tb_aok hc
    have hi : Cond.instantiable (tb_own c) (tb_nf c) ∈ tb_ws := zw_inst hc
    obtain ⟨cC, iS, hk⟩ := u_known hts h3 (hts _ hi)
    refine ⟨cC, iS, fun q hq => ?_⟩
    rw [h1] at hq
    cases hq
    exact hk
  have all : ∀ c : Nat, ∃ (cC : ClassId) (iS : Nat → Nat), ∀ q : vw_C, tb_cl[c]? = some q → u_Kn s q.1 q.2.1 q.2.2 cC iS := by
    intro c
    by_cases hc : c < 12
    · exact one c hc
    · refine ⟨0, fun _ => 0, fun q hq => ?_⟩
      have : tb_cl.length = 12 := rfl
      rw [List.getElem?_eq_none (by omega)] at hq
      cases hq
  exact ⟨(fun c => (all c).choose, fun c => (all c).choose_spec.choose), fun c q hq => (all c).choose_spec.choose_spec q hq⟩
set_option maxHeartbeats 1000000 in
theorem whole_start (hg : am_goal) {p : Program} {e : Env} {s : State} {m : MethodId} {below : List Frame} {meth : Method} {c : Code} (l : Launch) (htr : l.stackTraces = false) {b L : Nat} {xs : Nat → Int32} (hL : L ≤ 3075) (hx : p.tables.exec = Jvm.exec) (hb : c.code = code) (hr : meth.sig.returnType = ret) (hml : c.maxLocals = 7) (hown : s.vm.findClass "AttributeLinkLaw" = some m.cls)
    (hts : ∀ w ∈ lw_tbl, w.before #[Value.ref b] s = true) (hX : va_X b L xs s s.heap) (hbl : b < s.heap.size) (hlk : meth.locks = false) (hgv : (Jvm.Cond.and given_1 narrow_1).before #[Value.ref b] s = true) (hnm : meth.name = x.name) (hex : c.exceptionTable.toList.map (fun h => (h.startPc, h.endPc, h.handlerPc, h.catchType)) = []) :
    W p l e room_1 s m #[Value.ref b] below meth c s.heap [] 0 0 (lw_Z below #[Value.ref b] s) (entryFrame m ([Value.ref b] : List Value).toArray 7) := by
  obtain ⟨o, h', ho, hT⟩ := am_T_ex (hg L xs hL)
  subst ho
  have hws : ∀ w ∈ tb_ws, w.before #[Value.ref b] s = true := fun w hw => hts w (List.mem_filter.mp hw).1
  have hfl := flat_of_before _ hgv
  have hlz1 : (Cond.laysStatic Bundle.tN "UNASSIGNED_STACK" Bundle.steD).before #[Value.ref b] s = true := hts _ (zw_in1)
  have hlz2 : (Cond.laysStatic Bundle.tN "SUPPRESSED_SENTINEL" Bundle.listD).before #[Value.ref b] s = true := hts _ (zw_in2)
  have hZ : zw_Z s.heap.size s := ⟨zw_of hlz1 (hfl _ (by decide +kernel)), zw_of hlz2 (hfl _ (by decide +kernel)), zw_nc hfl⟩
  obtain ⟨D, hD⟩ := zw_cls hws
  obtain ⟨c0, k0⟩ := zw_arr (hws _ tb_s12) (fun C h => by cases h)
  obtain ⟨c1, k1⟩ := zw_arr (hws _ tb_s13) (fun C h => by cases h)
  obtain ⟨c2, k2⟩ := zw_arr (hws _ tb_s14) (fun C h => by cases h)
  obtain ⟨c3, k3⟩ := zw_arrO (hws _ tb_s10)
  obtain ⟨c4, k4⟩ := zw_arrO (hws _ tb_s11)
  let cA : Nat → ClassId := fun t => match t with | 100 => c0 | 101 => c1 | 102 => c2 | 103 => c3 | _ => c4
  have hK : va_K D tb_cl (am_tys tb_cl tb_G tb_own cA) s := ⟨hD, fun k q hq => by
    match k, hq with
    | 0, hq => cases hq; exact k0
    | 1, hq => cases hq; exact k1
    | 2, hq => cases hq; exact k2
    | 3, hq => cases hq; exact k3
    | 4, hq => cases hq; exact k4
    | n + 5, hq => cases hq⟩
  have hnone : ∀ (q : Nat) (ce : Cell), s.heap.size ≤ q → s.heap[q]? = some ce → ce.vm.isStatics = false := fun q ce hq hce => absurd (Array.getElem?_eq_some_iff.mp hce).1 (by omega)
  have hXX : am_X tb_G tb_cl D cA b s.heap.size L xs (am_h0 L xs) s.heap := by
    refine ⟨fun k q hq => ?_, rfl, fun a q hq => ?_, rfl, hnone⟩
    · cases hq
    · unfold am_h0 am_sh am_u1 at hq
      dsimp only at hq
      split at hq
      · rename_i ha
        subst ha
        cases hq
        exact ⟨Nat.le_refl _, fun _ => rfl⟩
      · cases hq
  have hY : am_Y tb_G tb_cl tb_own D cA b s.heap.size L xs s := ⟨hK, hbl, Nat.le_refl _, hX, hnone⟩
  have hF : am_F tb_own tb_ws mt_La_law p m #[Value.ref b] meth c s := ⟨hx, hb, hml, hown, hws, hr, hlk, hnm, hex⟩
  have hC := am_all (l := l) (D := D) (cA := cA) (b0 := b) (b := s.heap.size) (L := L) (xs := xs) (Z := zw_Z s.heap.size) (fun s hs => hs.2.2) htr zw_Z2 tb_WF zw_Zm 12
  have hsnd := am_snd (p := p) (e := e) (below := below) (M := mt_La_law) (d := 12) (oM := .inl (some (.int 1))) (hM := h') (fun s hs => hs.2.2) tb_WF zw_Zm (fun x hx => by cases hx) ⟨180, rfl⟩ htr zw_Z2 hC hF hY hZ
  have hl := lv_entry [Value.ref b] (n := 7) (by show 1 ≤ 7; omega)
  have hgo := hsnd 0 [(0, .ref 0)] [] (am_h0 L xs) 0 0 s.heap [] _ hT hXX va_S.rf hl (Nat.zero_le _) (Nat.zero_le _)
  rw [lg_entry_eq]
  refine am_mono (fun t ht => ?_) hgo
  obtain ⟨o, h1, h2, ⟨h3, -, -⟩, Ls, ⟨h4, h5⟩, h6⟩ := ht
  dsimp only at h3
  subst h3
  exact ⟨_, h1, h2, rfl, ⟨_, rfl⟩, h4, h5.weaken (fun y hy hlt => absurd hlt (Nat.not_lt.mpr (h6 y hy))) (Nat.le_refl _) (Nat.le_refl _)⟩
set_option maxHeartbeats 4000000 in
theorem lw_walk (hg : am_goal) (l : Launch) (htr : l.stackTraces = false) (b : Addr) (xs : List Int32) : MetFree l x (headSpec (Jvm.Cond.code x code maxLocals ret :: tables_1) room_1) (lw_P b xs) (fun _ _ _ _ _ => True) lw_Q := by
  refine MetFree.of_bodyS (code := code) (maxLocals := maxLocals) (ret := ret) (by decide) ?_ ?_
  · intro args s m h hn
    obtain ⟨meth, c, h1, h2, h3, h4, h5, h6, -, -⟩ := Cond.code_spec hn (atoms_spec (ws := Jvm.Cond.code x code maxLocals ret :: tables_1) h _ List.mem_cons_self)
    exact ⟨meth, c, h1, h2, h3, h4, h5, h6⟩
  · intro p e s m args below meth c s₁ B hml0 hP _
    obtain ⟨rfl, hx, hbd, hgv⟩ := hP
    obtain ⟨scr, harrAt, hlist, hof, hsmall⟩ := hx
    obtain ⟨hcb, hkn, -, -⟩ := State.arrayAt?_spec harrAt
    have hown : s.vm.findClass "AttributeLinkLaw" = some m.cls := findClass_of_methodNamed B.named
    have hts0 : ∀ c ∈ (Jvm.Cond.code x code maxLocals ret :: tables_1), c.before #[Value.ref b] s = true := atoms_spec (ws := Jvm.Cond.code x code maxLocals ret :: tables_1) B.pre
    have hts : ∀ w ∈ lw_tbl, w.before #[Value.ref b] s = true := k2_hts_sels lw_privs (fun w hw => hts0 w (List.mem_cons_of_mem _ hw)) lw_privs_ok
    have hml : c.maxLocals = 7 := B.maxLocals_eq (hts0 _ List.mem_cons_self)
    have X₀ : Stand p l e room_1 s m #[Value.ref b] below meth c s₁ [] 0 0 := Stand.of_body B
    have hh0 : s₁.heap = s.heap := by rw [B.state]; rfl
    have hsz : scr.slots.size = xs.length := by rw [← Array.length_toList, hlist, List.length_map]
    have hval : ∀ j : Nat, j < xs.length → scr.slots[j]? = some (.int (xs.getD j 0)) := fun j hj => by
      rw [← Array.getElem?_toList, hlist]
      simp [hj]
    have hbl : b < s.heap.size := (Array.getElem?_eq_some_iff.mp hcb).1
    have hX : va_X b xs.length (fun j => xs.getD j 0) s s.heap := ⟨scr, hcb, hof, hkn, hsz, hval⟩
    have htab : c.exceptionTable.toList.map (fun h => (h.startPc, h.endPc, h.handlerPc, h.catchType)) = [] := am_tab (M := mt_La_law) (hts0 _ List.mem_cons_self) B.named B.method (Stand.of_body B).code
    have K : W p l e room_1 s m #[Value.ref b] below meth c s₁.heap [] 0 0 (lw_Z below #[Value.ref b] s) (entryFrame m ([Value.ref b] : List Value).toArray 7) := by
      rw [hh0]
      exact whole_start hg l htr hbd B.exec B.bytes B.returns hml hown hts hX hbl B.notSynchronized hgv (name_of_methodNamed B.named B.method).1 htab
    obtain ⟨t, a1, o, b1, b2, b3⟩ := K s₁ rfl X₀
    exact ⟨t, o, a1, b1, b2, b3⟩
theorem lw_pre_spec {args : Array Value} {s : State} (h : (Jvm.Cond.and given_1 narrow_1).before args s = true) (hr : rest_1_c.before args s = true) : ∃ (b : Addr) (xs : List Int32), lw_P b xs args s := by
  have hs := flat_of_before _ h
  have hq := flat_of_before _ hr
  have hc : (Cond.count 1).before args s = true := hs _ (by decide +kernel)
  have harr : (Cond.arrayOf (.arg 0) .int).before args s = true := hs _ (by decide +kernel)
  have hle : (Cond.le (.length (.arg 0)) (.int 3075)).before args s = true := hs _ (by decide +kernel)
  have hlen : (Cond.isInt (.length (.arg 0))).before args s = true := hq _ (by decide +kernel)
  have hall : (Cond.all (.arg 0) (.isInt (.elem (.arg 0) (.index 0)))).before args s = true := hq _ (by decide +kernel)
  obtain ⟨b, xs, hb, hx⟩ := State.ints_of_pre rfl harr hlen hall
  have hsm : xs.length < 2 ^ 31 := hx.choose_spec.2.2.2
  have hev : (Term.length (.arg 0)).eval args s none [] s = some (.int xs.length.toInt32) := hx.length_eval hb
  have hv := Cond.le_ints hev (show (Term.int 3075).eval args s none [] s = some (.int 3075) from rfl)
  have hd : xs.length.toInt32 ≤ 3075 := by
    simpa [Cond.before, Cond.holds, hv] using hle
  have hN : xs.length ≤ 3075 := (Int32.ofNat_le_ofNat hsm (by decide)).mp (show Int32.ofNat xs.length ≤ Int32.ofNat 3075 from hd)
  exact ⟨b, xs, Cond.one_arg hc (show args[0]? = some (.ref b) from hb), hx, hN, h⟩
theorem lw_comes (hg : am_goal) (l : Launch) (htr : l.stackTraces = false) : Comes l x (Jvm.Cond.code x code maxLocals ret :: tables_1) room_1 (fun tb e args s => Calls_1 tb e args s ∧ rest_1 tb e args s ∧ Pre_1 tb e args s)
    (fun _ _ args s o t => lw_Q args s o t) := by
  intro p e ha hc hk s m args below hf hfit hheap happ hpre
  obtain ⟨b, xs, hP⟩ := lw_pre_spec hpre.2.2 hpre.2.1
  obtain ⟨k, o, h1, h2, h3, hQ⟩ := lw_walk hg l htr b xs p e ha hc hk s m args below hf ((Spec.applies_iff_loose hf).mp happ).1 hP trivial
  exact ⟨k, o, h1, h2, h3, hQ⟩
theorem lw_frame {s t : State} {o : Outcome} {args : Array Value} (h : Framed s o t [] 601024 7293000) :
    Framed s o t (fieldLocs frame_1_writes args s ++ arrayLocs frame_1_arrays args s ++ staticLocs frame_1_statics s) 601024 7293000 := h
theorem lw_limb (hg : am_goal) (L : Cond) (hL : ∀ (args : Array Value) (s t : State), L.after args s (.returned (some (.int 1))) t = true) :
    ArmFor flags0 classFile x code maxLocals ret World_1 tables_1 room_1 Calls_1 rest_1 Pre_1
      (fun tb e a s o t => postC L tb e a s o t ∧ Framed s o t (fieldLocs frame_1_writes a s ++ arrayLocs frame_1_arrays a s ++ staticLocs frame_1_statics s) 601024 7293000) := by
  intro l hfl _ _ p e ha hc hk s m args below hf hfit hheap happ hpre
  have htr : l.stackTraces = false := by
    unfold Launch.stackTraces
    rw [hfl]
    decide +kernel
  obtain ⟨k, o, h1, h2, h3, rfl, hF⟩ := lw_comes hg l htr p e ha hc hk s m args below hf hfit hheap happ hpre
  exact ⟨k, _, h1, h2, h3, hL args s _, lw_frame hF⟩
/-- all that is left is am_goal -/
theorem vc_of (hg : am_goal) : Claimed_1_1 ∧ Claimed_1_2 := ⟨lw_limb hg limb_1_1 (fun args s t => by simp [limb_1_1, Cond.after, Cond.holds, Cond.value]), lw_limb hg limb_1_2 (fun args s t => Cond.after_iff.mpr (by
  first | (rw [show limb_1_2 = Cond.eq .result (.int 1) from rfl, Cond.eq_ints (x := 1) (y := 1) rfl rfl]; simp; done) | (simp [limb_1_2, Cond.value, Term.eval]; done)))⟩
end
section
/-! Part 50: walking over a heap in which the objects of class Row are lists. R a: the room of the row at a (its bytes lie in the cell behind it); W a: its bytes; J: all other cells. -/
abbrev bw_W : Type := Nat → List Int32
abbrev bw_J : Type := Nat → Nat → Int32
abbrev bw_L : Type := Nat → Nat → Int64
def bw_rc (R : Nat → Option Nat) (c : Nat) : Bool := (R c).isSome || (match c with
  | 0 => false
  | k + 1 => (R k).isSome)
def bw_hp (R : Nat → Option Nat) (W : bw_W) (J I : bw_J) : Prop :=
  (∀ a N, R a = some N → I a 1 = Int32.ofNat (W a).length ∧ (W a).length ≤ N ∧ ∀ k, k < (W a).length → I (a + 1) k = (W a).getD k 0) ∧ ∀ c, bw_rc R c = false → I c = J c
/-- an end, over rows -/
def bw_Q (S : am_S) (R : Nat → Option Nat) (Q : am_O → bw_W → bw_J → Nat → bw_L → Prop) : am_O → am_H → Prop := fun o h => ∃ (W : bw_W) (J : bw_J) (g : Nat) (I : bw_J) (L : bw_L), h = (S, g, I, L) ∧ bw_hp R W J I ∧ Q o W J g L
def bT (d : Nat) (S : am_S) (R : Nat → Option Nat) (M : am_M) (Q : am_O → bw_W → bw_J → Nat → bw_L → Prop) (pc : Nat) (al : List (Nat × Value)) (st : List Value) (W : bw_W) (J : bw_J) (g : Nat) (L : bw_L) (c u : Nat) : Prop :=
  ∀ I, bw_hp R W J I → am_T (am_C tb_G d) tb_G M (bw_Q S R Q) pc al st (S, g, I, L) c u
def bm (d : Nat) (S : am_S) (R : Nat → Option Nat) (j : Nat) (as : List Value) (W : bw_W) (J : bw_J) (g : Nat) (L : bw_L) (Q : am_O → bw_W → bw_J → Nat → bw_L → Prop) : Prop :=
  ∀ I, bw_hp R W J I → am_m tb_G d j as (S, g, I, L) (bw_Q S R Q)
/-- it returns v, with the heap so -/
def bR (v : Option Value) (W1 : bw_W) (J1 : bw_J) (g1 : Nat) (L1 : bw_L) : am_O → bw_W → bw_J → Nat → bw_L → Prop := fun o W J g L => o = .inl v ∧ W = W1 ∧ J = J1 ∧ g = g1 ∧ L = L1
section BW
variable {d : Nat} {S : am_S} {R : Nat → Option Nat} {M : am_M} {Q : am_O → bw_W → bw_J → Nat → bw_L → Prop} {pc pc2 : Nat} {al : List (Nat × Value)} {st r : List Value} {W : bw_W} {J : bw_J} {g : Nat} {L : bw_L} {c u : Nat}
theorem bm_of {j : Nat} {as : List Value} (h8 : am_w8 as ≤ am_mL (tb_mt j)) (hv : 5 < d + 1 ∨ ∀ o W J g L, Q o W J g L → ∃ v, o = .inl v) (hh : bT d S R (tb_mt j) Q 0 (lv_args 0 as) [] W J g L 0 0) : bm (d + 1) S R j as W J g L Q := fun I hI => by
  refine am_m_of h8 ?_ (hh I hI)
  rcases hv with hv | hv
  · exact Or.inl hv
  · refine Or.inr fun o h' q => ?_
    obtain ⟨W1, J1, g1, I1, L1, -, -, q1⟩ := q
    exact hv _ _ _ _ _ q1
theorem bm_up {d2 j : Nat} {as : List Value} {Q2 : am_O → bw_W → bw_J → Nat → bw_L → Prop} (hd : d ≤ d2) (hQ : ∀ o W J g L, Q o W J g L → Q2 o W J g L) (hh : bm d S R j as W J g L Q) : bm d2 S R j as W J g L Q2 := fun I hI => by
  refine am_m_up hd ?_ (hh I hI)
  intro o h' q
  obtain ⟨W1, J1, g1, I1, L1, e, q0, q1⟩ := q
  exact ⟨W1, J1, g1, I1, L1, e, q0, hQ _ _ _ _ _ q1⟩
theorem bR_ret {v : Option Value} {W1 : bw_W} {J1 : bw_J} {g1 : Nat} {L1 : bw_L} : ∀ o W J g L, bR v W1 J1 g1 L1 o W J g L → ∃ v, o = .inl v := fun _ _ _ _ _ q => ⟨_, q.1⟩
theorem b_step {ins : Instr} {len : Nat} (hd : decode (am_b M) pc = .ok (ins, len)) (k : ∀ I, bw_hp R W J I → am_do (am_C tb_G d) tb_G M (am_T (am_C tb_G d) tb_G M (bw_Q S R Q)) (bw_Q S R Q) ins len pc al st (S, g, I, L) c u) : bT d S R M Q pc al st W J g L c u := fun I hI => by
  refine am_T_step ?_
  unfold am_step
  rw [hd]
  exact k I hI
theorem b_il {i : Nat} {x : Int32} (hd : decode (am_b M) pc = .ok (.iload i, 2)) (hl : am_lk al i = some (.int x)) (e : pc + 2 = pc2) (k : bT d S R M Q pc2 al (.int x :: st) W J g L c u) : bT d S R M Q pc al st W J g L c u := b_step hd fun I hI => ⟨rfl, by rw [hl, e]; exact k I hI⟩
theorem b_iln {i : Fin 4} {x : Int32} (hd : decode (am_b M) pc = .ok (.iload_n i, 1)) (hl : am_lk al i = some (.int x)) (e : pc + 1 = pc2) (k : bT d S R M Q pc2 al (.int x :: st) W J g L c u) : bT d S R M Q pc al st W J g L c u := b_step hd fun I hI => ⟨rfl, by rw [hl, e]; exact k I hI⟩
theorem b_ll {i : Nat} {x : Int64} (hd : decode (am_b M) pc = .ok (.lload i, 2)) (hl : am_lk al i = some (.long x)) (e : pc + 2 = pc2) (k : bT d S R M Q pc2 al (.long x :: st) W J g L c u) : bT d S R M Q pc al st W J g L c u := b_step hd fun I hI => ⟨rfl, by rw [hl, e]; exact k I hI⟩
theorem b_lln {i : Fin 4} {x : Int64} (hd : decode (am_b M) pc = .ok (.lload_n i, 1)) (hl : am_lk al i = some (.long x)) (e : pc + 1 = pc2) (k : bT d S R M Q pc2 al (.long x :: st) W J g L c u) : bT d S R M Q pc al st W J g L c u := b_step hd fun I hI => ⟨rfl, by rw [hl, e]; exact k I hI⟩
theorem b_al {i : Nat} {x : Nat} (hd : decode (am_b M) pc = .ok (.aload i, 2)) (hl : am_lk al i = some (.ref x)) (e : pc + 2 = pc2) (k : bT d S R M Q pc2 al (.ref x :: st) W J g L c u) : bT d S R M Q pc al st W J g L c u := b_step hd fun I hI => ⟨rfl, by rw [hl, e]; exact k I hI⟩
theorem b_aln {i : Fin 4} {x : Nat} (hd : decode (am_b M) pc = .ok (.aload_n i, 1)) (hl : am_lk al i = some (.ref x)) (e : pc + 1 = pc2) (k : bT d S R M Q pc2 al (.ref x :: st) W J g L c u) : bT d S R M Q pc al st W J g L c u := b_step hd fun I hI => ⟨rfl, by rw [hl, e]; exact k I hI⟩
theorem b_is {i : Nat} {x : Int32} {al2 : List (Nat × Value)} (hd : decode (am_b M) pc = .ok (.istore i, 2)) (hm : i < am_mL M) (hl : am_s1 al i (.int x) = al2) (e : pc + 2 = pc2) (k : bT d S R M Q pc2 al2 r W J g L c u) : bT d S R M Q pc al (.int x :: r) W J g L c u := b_step hd fun I hI => ⟨rfl, hm, by subst e; subst hl; exact k I hI⟩
theorem b_isn {i : Fin 4} {x : Int32} {al2 : List (Nat × Value)} (hd : decode (am_b M) pc = .ok (.istore_n i, 1)) (hm : (i : Nat) < am_mL M) (hl : am_s1 al i (.int x) = al2) (e : pc + 1 = pc2) (k : bT d S R M Q pc2 al2 r W J g L c u) : bT d S R M Q pc al (.int x :: r) W J g L c u := b_step hd fun I hI => ⟨rfl, hm, by subst e; subst hl; exact k I hI⟩
theorem b_as {i : Nat} {x : Nat} {al2 : List (Nat × Value)} (hd : decode (am_b M) pc = .ok (.astore i, 2)) (hm : i < am_mL M) (hl : am_s1 al i (.ref x) = al2) (e : pc + 2 = pc2) (k : bT d S R M Q pc2 al2 r W J g L c u) : bT d S R M Q pc al (.ref x :: r) W J g L c u := b_step hd fun I hI => ⟨rfl, hm, by subst e; subst hl; exact k I hI⟩
theorem b_asn {i : Fin 4} {x : Nat} {al2 : List (Nat × Value)} (hd : decode (am_b M) pc = .ok (.astore_n i, 1)) (hm : (i : Nat) < am_mL M) (hl : am_s1 al i (.ref x) = al2) (e : pc + 1 = pc2) (k : bT d S R M Q pc2 al2 r W J g L c u) : bT d S R M Q pc al (.ref x :: r) W J g L c u := b_step hd fun I hI => ⟨rfl, hm, by subst e; subst hl; exact k I hI⟩
theorem b_inc {i : Nat} {n : Int} {x : Int32} {al2 : List (Nat × Value)} (hd : decode (am_b M) pc = .ok (.iinc i n, 3)) (hm : i < am_mL M) (hx : am_lk al i = some (.int x)) (hl : am_s1 al i (.int (x + Int32.ofInt n)) = al2) (e : pc + 3 = pc2) (k : bT d S R M Q pc2 al2 st W J g L c u) : bT d S R M Q pc al st W J g L c u := b_step hd fun I hI => ⟨rfl, hm, by subst e; subst hl; rw [hx]; exact k I hI⟩
theorem b_pure {ins : Instr} {len : Nat} {st2 : List Value} (hd : decode (am_b M) pc = .ok (ins, len)) (hi : am_isd ins = true) (hp : am_pure ins st = some (len, st2)) (e : pc + len = pc2) (k : bT d S R M Q pc2 al st2 W J g L c u) : bT d S R M Q pc al st W J g L c u := b_step hd fun I hI => by
  rw [am_do_d hi]
  unfold am_dflt
  rw [hp]
  subst e
  exact ⟨rfl, k I hI⟩
theorem b_rem {x y : Int32} (hd : decode (am_b M) pc = .ok (.irem, 1)) (hy : ¬ y = 0) (e : pc + 1 = pc2) (k : bT d S R M Q pc2 al (.int (x - x / y * y) :: r) W J g L c u) : bT d S R M Q pc al (.int y :: .int x :: r) W J g L c u := b_step hd fun I hI => ⟨rfl, hy, by subst e; exact k I hI⟩
theorem b_ldc {i : Nat} {x : Int32} (hd : decode (am_b M) pc = .ok (.ldc i, 2)) (hk : tb_kc (am_o M) i = some (.int x)) (e : pc + 2 = pc2) (k : bT d S R M Q pc2 al (.int x :: st) W J g L c u) : bT d S R M Q pc al st W J g L c u := b_step hd fun I hI => ⟨rfl, by show am_vi (tb_kc (am_o M) i) _; rw [hk]; subst e; exact k I hI⟩
theorem b_ldcw {i : Nat} {x : Int32} (hd : decode (am_b M) pc = .ok (.ldc_w i, 3)) (hk : tb_kc (am_o M) i = some (.int x)) (e : pc + 3 = pc2) (k : bT d S R M Q pc2 al (.int x :: st) W J g L c u) : bT d S R M Q pc al st W J g L c u := b_step hd fun I hI => ⟨rfl, by show am_vi (tb_kc (am_o M) i) _; rw [hk]; subst e; exact k I hI⟩
theorem b_ldc2 {i : Nat} {x : Int64} (hd : decode (am_b M) pc = .ok (.ldc2_w i, 3)) (hk : tb_kc (am_o M) i = some (.long x)) (e : pc + 3 = pc2) (k : bT d S R M Q pc2 al (.long x :: st) W J g L c u) : bT d S R M Q pc al st W J g L c u := b_step hd fun I hI => ⟨rfl, by show am_vl (tb_kc (am_o M) i) _; rw [hk]; subst e; exact k I hI⟩
theorem b_gi {i ci fi a : Nat} (hd : decode (am_b M) pc = .ok (.getfield i, 3)) (hp : tb_pl (am_o M) i = (1, ci, fi, 0)) (hs : S.1 a = some (ci, tb_nf ci)) (hf : fi < tb_nf ci) (ht : ¬ tb_ft ci fi % 10 = 2) (hr : bw_rc R a = false) (e : pc + 3 = pc2) (k : bT d S R M Q pc2 al (.int (J a fi) :: r) W J g L c u) : bT d S R M Q pc al (.ref a :: r) W J g L c u := b_step hd fun I hI => by
  refine ⟨rfl, ?_⟩
  dsimp only [am_str, am_sti, am_stv]
  unfold am_get
  rw [show am_pl tb_G (am_o M) i = (1, ci, fi, 0) from hp]
  refine ⟨hs, hf, ?_⟩
  rw [if_neg (show ¬ am_ft tb_G ci fi % 10 = 2 from ht)]
  have : am_I (S, g, I, L) a fi = J a fi := congrFun (hI.2 a hr) fi
  rw [this]
  subst e
  exact k I hI
theorem b_gr {i ci fi a j : Nat} (hd : decode (am_b M) pc = .ok (.getfield i, 3)) (hp : tb_pl (am_o M) i = (1, ci, fi, 0)) (hs : S.1 a = some (ci, tb_nf ci)) (hf : fi < tb_nf ci) (ht : tb_ft ci fi % 10 = 2) (hj : S.2.1 a fi = some j) (e : pc + 3 = pc2) (k : bT d S R M Q pc2 al (.ref j :: r) W J g L c u) : bT d S R M Q pc al (.ref a :: r) W J g L c u := b_step hd fun I hI => by
  refine ⟨rfl, ?_⟩
  dsimp only [am_str, am_sti, am_stv]
  unfold am_get
  rw [show am_pl tb_G (am_o M) i = (1, ci, fi, 0) from hp]
  refine ⟨hs, hf, ?_⟩
  rw [if_pos (show am_ft tb_G ci fi % 10 = 2 from ht), show am_P (S, g, I, L) a fi = some j from hj]
  subst e
  exact k I hI
theorem bw_put {a fi : Nat} {x : Int32} {I : bw_J} (hI : bw_hp R W J I) (hr : bw_rc R a = false) : bw_hp R W (am_u2 J a fi x) (am_u2 I a fi x) := by
  have hne : ∀ b N, R b = some N → ¬ b = a ∧ ¬ b + 1 = a := fun b N hb => by
    constructor
    · intro h; subst h; unfold bw_rc at hr; rw [hb] at hr; cases hr
    · intro h; subst h; unfold bw_rc at hr; simp [hb] at hr
  refine ⟨fun b N hb => ?_, fun q hq => ?_⟩
  · obtain ⟨n1, n2⟩ := hne b N hb
    unfold am_u2
    rw [if_neg n1, if_neg n2]
    exact hI.1 b N hb
  · unfold am_u2
    by_cases h : q = a
    · subst h; rw [if_pos rfl, if_pos rfl, hI.2 q hq]
    · rw [if_neg h, if_neg h, hI.2 q hq]
theorem b_pi {i ci fi a : Nat} {x : Int32} (hd : decode (am_b M) pc = .ok (.putfield i, 3)) (hp : tb_pl (am_o M) i = (1, ci, fi, 0)) (hs : S.1 a = some (ci, tb_nf ci)) (hf : fi < tb_nf ci) (hw : tb_ft ci fi < 10 ∨ ((am_y M).name = "<init>" ∧ am_o M = ci)) (ht : tb_ft ci fi % 10 = 0 ∨ (tb_ft ci fi % 10 = 1 ∧ (x = 0 ∨ x = 1))) (hr : bw_rc R a = false) (e : pc + 3 = pc2) (k : bT d S R M Q pc2 al r W (am_u2 J a fi x) g L c u) : bT d S R M Q pc al (.int x :: .ref a :: r) W J g L c u := b_step hd fun I hI => by
  refine ⟨rfl, ?_⟩
  dsimp only [am_str, am_sti, am_stv]
  unfold am_put
  rw [show am_pl tb_G (am_o M) i = (1, ci, fi, 0) from hp]
  refine ⟨hs, hf, hw, ht, ?_⟩
  subst e
  exact k _ (bw_put hI hr)
theorem b_ia {i : Int32} {a n q : Nat} (hd : decode (am_b M) pc = .ok (.iaload, 1)) (hs : S.1 a = some (100, n)) (hi : vp_in i n) (hq : i.toNatClampNeg = q) (hr : bw_rc R a = false) (e : pc + 1 = pc2) (k : bT d S R M Q pc2 al (.int (J a q) :: r) W J g L c u) : bT d S R M Q pc al (.int i :: .ref a :: r) W J g L c u := b_step hd fun I hI => by
  refine ⟨rfl, ?_⟩
  dsimp only [am_str, am_sti, am_stv]
  unfold am_ald
  rw [show am_sh (S, g, I, L) a = some (100, n) from hs]
  refine ⟨hi, Or.inl rfl, ?_⟩
  have : am_I (S, g, I, L) a i.toNatClampNeg = J a q := by rw [hq]; exact congrFun (hI.2 a hr) q
  rw [this]
  subst e
  exact k I hI
theorem b_ia0 {i : Int32} {n q : Nat} (hd : decode (am_b M) pc = .ok (.iaload, 1)) (hs : S.1 0 = some (150, n)) (hi : vp_in i n) (hq : i.toNatClampNeg = q) (hr : bw_rc R 0 = false) (e : pc + 1 = pc2) (k : bT d S R M Q pc2 al (.int (J 0 q) :: r) W J g L c u) : bT d S R M Q pc al (.int i :: .ref 0 :: r) W J g L c u := b_step hd fun I hI => by
  refine ⟨rfl, ?_⟩
  dsimp only [am_str, am_sti, am_stv]
  unfold am_ald
  rw [show am_sh (S, g, I, L) 0 = some (150, n) from hs]
  refine ⟨hi, Or.inr ⟨rfl, rfl⟩, ?_⟩
  have : am_I (S, g, I, L) 0 i.toNatClampNeg = J 0 q := by rw [hq]; exact congrFun (hI.2 0 hr) q
  rw [this]
  subst e
  exact k I hI
theorem b_ba {i : Int32} {a n q : Nat} (hd : decode (am_b M) pc = .ok (.baload, 1)) (hs : S.1 a = some (101, n)) (hi : vp_in i n) (hq : i.toNatClampNeg = q) (hr : bw_rc R a = false) (e : pc + 1 = pc2) (k : bT d S R M Q pc2 al (.int (J a q) :: r) W J g L c u) : bT d S R M Q pc al (.int i :: .ref a :: r) W J g L c u := b_step hd fun I hI => by
  refine ⟨rfl, ?_⟩
  dsimp only [am_str, am_sti, am_stv]
  unfold am_ald
  rw [show am_sh (S, g, I, L) a = some (101, n) from hs]
  refine ⟨hi, rfl, ?_⟩
  have : am_I (S, g, I, L) a i.toNatClampNeg = J a q := by rw [hq]; exact congrFun (hI.2 a hr) q
  rw [this]
  subst e
  exact k I hI
theorem b_la {i : Int32} {a n q : Nat} (hd : decode (am_b M) pc = .ok (.laload, 1)) (hs : S.1 a = some (102, n)) (hi : vp_in i n) (hq : i.toNatClampNeg = q) (e : pc + 1 = pc2) (k : bT d S R M Q pc2 al (.long (L a q) :: r) W J g L c u) : bT d S R M Q pc al (.int i :: .ref a :: r) W J g L c u := b_step hd fun I hI => by
  refine ⟨rfl, ?_⟩
  dsimp only [am_str, am_sti, am_stv]
  unfold am_ald
  rw [show am_sh (S, g, I, L) a = some (102, n) from hs]
  refine ⟨hi, rfl, ?_⟩
  rw [hq]
  subst e
  exact k I hI
theorem b_aa {i : Int32} {a n q j t : Nat} (hd : decode (am_b M) pc = .ok (.aaload, 1)) (hs : S.1 a = some (t, n)) (ht : t = 103 ∨ t = 104) (hi : vp_in i n) (hq : i.toNatClampNeg = q) (hj : S.2.1 a q = some j) (e : pc + 1 = pc2) (k : bT d S R M Q pc2 al (.ref j :: r) W J g L c u) : bT d S R M Q pc al (.int i :: .ref a :: r) W J g L c u := b_step hd fun I hI => by
  refine ⟨rfl, ?_⟩
  dsimp only [am_str, am_sti, am_stv]
  unfold am_ald
  rw [show am_sh (S, g, I, L) a = some (t, n) from hs]
  refine ⟨hi, ht, ?_⟩
  rw [hq, show am_P (S, g, I, L) a q = some j from hj]
  subst e
  exact k I hI
theorem b_ist {i x : Int32} {a n q : Nat} (hd : decode (am_b M) pc = .ok (.iastore, 1)) (hs : S.1 a = some (100, n)) (hi : vp_in i n) (hq : i.toNatClampNeg = q) (hr : bw_rc R a = false) (e : pc + 1 = pc2) (k : bT d S R M Q pc2 al r W (am_u2 J a q x) g L c u) : bT d S R M Q pc al (.int x :: .int i :: .ref a :: r) W J g L c u := b_step hd fun I hI => by
  refine ⟨rfl, ?_⟩
  dsimp only [am_str, am_sti, am_stv]
  unfold am_ast
  rw [show am_sh (S, g, I, L) a = some (100, n) from hs]
  refine ⟨hi, rfl, ?_⟩
  rw [hq]
  subst e
  exact k _ (bw_put hI hr)
theorem b_bst {i x : Int32} {a n q : Nat} (hd : decode (am_b M) pc = .ok (.bastore, 1)) (hs : S.1 a = some (101, n)) (hi : vp_in i n) (hq : i.toNatClampNeg = q) (hr : bw_rc R a = false) (hx : x = 0 ∨ x = 1) (e : pc + 1 = pc2) (k : bT d S R M Q pc2 al r W (am_u2 J a q x) g L c u) : bT d S R M Q pc al (.int x :: .int i :: .ref a :: r) W J g L c u := b_step hd fun I hI => by
  refine ⟨rfl, ?_⟩
  dsimp only [am_str, am_sti, am_stv]
  unfold am_ast
  rw [show am_sh (S, g, I, L) a = some (101, n) from hs]
  refine ⟨hi, rfl, ?_⟩
  have : vp_nar .boolean x = x := by rcases hx with h | h <;> subst h <;> decide
  rw [hq, this]
  subst e
  exact k _ (bw_put hI hr)
theorem b_lst {i : Int32} {x : Int64} {a n q : Nat} (hd : decode (am_b M) pc = .ok (.lastore, 1)) (hs : S.1 a = some (102, n)) (hi : vp_in i n) (hq : i.toNatClampNeg = q) (e : pc + 1 = pc2) (k : bT d S R M Q pc2 al r W J g (am_u2 L a q x) c u) : bT d S R M Q pc al (.long x :: .int i :: .ref a :: r) W J g L c u := b_step hd fun I hI => by
  refine ⟨rfl, ?_⟩
  dsimp only [am_str, am_sti, am_stv]
  unfold am_ast
  rw [show am_sh (S, g, I, L) a = some (102, n) from hs]
  refine ⟨hi, rfl, ?_⟩
  rw [hq]
  subst e
  exact k I hI
theorem b_len {a n t : Nat} (hd : decode (am_b M) pc = .ok (.arraylength, 1)) (hs : S.1 a = some (t, n)) (ht : 100 ≤ t ∧ t ≤ 104 ∨ (t = 150 ∧ a = 0)) (e : pc + 1 = pc2) (k : bT d S R M Q pc2 al (.int (Int32.ofNat n) :: r) W J g L c u) : bT d S R M Q pc al (.ref a :: r) W J g L c u := b_step hd fun I hI => by
  refine ⟨rfl, ?_⟩
  show am_so (am_sh (S, g, I, L) a) _
  rw [show am_sh (S, g, I, L) a = some (t, n) from hs]
  subst e
  exact ⟨ht, k I hI⟩
theorem b_thr {i x ic z : Nat} (hd : decode (am_b M) pc = .ok (.new i, 3)) (hp : tb_pl (am_o M) i = (5, x, ic, z)) (hh : am_hs M = []) (hc : c + 1 ≤ am_mc M) (hu : u + 6 ≤ am_ms M) (h8 : am_w8 st ≤ 8) (h1 : decode (am_b M) (pc + 3) = .ok (.dup, 1)) (h2 : decode (am_b M) (pc + 4) = .ok (.invokespecial ic, 3)) (h3 : decode (am_b M) (pc + 7) = .ok (.athrow, 1)) (k : Q (.inr x) W J (g + 1) L) : bT d S R M Q pc al st W J g L c u := b_step hd fun I hI => by
  refine ⟨rfl, ?_⟩
  rw [show am_pl tb_G (am_o M) i = (5, x, ic, z) from hp]
  exact ⟨hh, hc, hu, h8, h1, h2, h3, W, J, g + 1, I, L, rfl, hI, k⟩
theorem b_ir {x : Int32} (hd : decode (am_b M) pc = .ok (.ireturn, 1)) (hr : am_rt M = some .int) (k : Q (.inl (some (.int x))) W J g L) : bT d S R M Q pc al [.int x] W J g L c u := b_step hd fun I hI => by
  refine ⟨rfl, ?_⟩
  show (match am_rt M with
      | some .int => bw_Q S R Q (.inl (some (.int x))) (S, g, I, L)
      | some .boolean => (x = 0 ∨ x = 1) ∧ bw_Q S R Q (.inl (some (.int x))) (S, g, I, L)
      | _ => False)
  rw [hr]
  exact ⟨W, J, g, I, L, rfl, hI, k⟩
theorem b_br {x : Int32} (hd : decode (am_b M) pc = .ok (.ireturn, 1)) (hr : am_rt M = some .boolean) (hx : x = 0 ∨ x = 1) (k : Q (.inl (some (.int x))) W J g L) : bT d S R M Q pc al [.int x] W J g L c u := b_step hd fun I hI => by
  refine ⟨rfl, ?_⟩
  show (match am_rt M with
      | some .int => bw_Q S R Q (.inl (some (.int x))) (S, g, I, L)
      | some .boolean => (x = 0 ∨ x = 1) ∧ bw_Q S R Q (.inl (some (.int x))) (S, g, I, L)
      | _ => False)
  rw [hr]
  exact ⟨hx, W, J, g, I, L, rfl, hI, k⟩
theorem b_ar {a : Nat} {n : String} (hd : decode (am_b M) pc = .ok (.areturn, 1)) (hr : am_rt M = some (.object n)) (k : Q (.inl (some (.ref a))) W J g L) : bT d S R M Q pc al [.ref a] W J g L c u := b_step hd fun I hI => by
  refine ⟨rfl, ?_⟩
  show (match am_rt M with
      | some (.object _) => bw_Q S R Q (.inl (some (.ref a))) (S, g, I, L)
      | _ => False)
  rw [hr]
  exact ⟨W, J, g, I, L, rfl, hI, k⟩
theorem b_vr (hd : decode (am_b M) pc = .ok (.return_, 1)) (hr : am_rt M = none) (k : Q (.inl none) W J g L) : bT d S R M Q pc al [] W J g L c u := b_step hd fun I hI => ⟨rfl, hr, W, J, g, I, L, rfl, hI, k⟩
theorem b_go {off : Int} (hd : decode (am_b M) pc = .ok (.goto off, 3)) (e : (pc : Int) + off = (pc2 : Int)) (k : bT d S R M Q pc2 al st W J g L c u) : bT d S R M Q pc al st W J g L c u := b_step hd fun I hI => by
  rw [am_do_d rfl]
  refine ⟨rfl, ?_⟩
  unfold am_tg
  rw [e]
  exact ⟨rfl, k I hI⟩
theorem b_if {ins : Instr} {b : Bool} {off : Int} {pc3 : Nat} (hd : decode (am_b M) pc = .ok (ins, 3)) (hi : am_isd ins = true) (hp : am_pure ins st = none) (hb : am_br ins st = some (b, off, r)) (e : (pc : Int) + off = (pc2 : Int)) (e3 : pc + 3 = pc3) (k1 : b = true → bT d S R M Q pc2 al r W J g L c u) (k2 : b = false → bT d S R M Q pc3 al r W J g L c u) : bT d S R M Q pc al st W J g L c u := b_step hd fun I hI => by
  rw [am_do_d hi]
  unfold am_dflt
  rw [hp, hb]
  refine ⟨rfl, ?_⟩
  unfold am_tg
  dsimp only
  rw [e]
  refine ⟨rfl, ?_⟩
  cases b with
  | true => exact k1 rfl I hI
  | false => rw [if_neg (by decide)]; subst e3; exact k2 rfl I hI
theorem b_sw {ins : Instr} {len : Nat} {off : Int} (hd : decode (am_b M) pc = .ok (ins, len)) (hi : am_isd ins = true) (hp : am_pure ins st = none) (hb : am_br ins st = none) (hs : am_sw ins st = some (off, r)) (e : (pc : Int) + off = (pc2 : Int)) (k : bT d S R M Q pc2 al r W J g L c u) : bT d S R M Q pc al st W J g L c u := b_step hd fun I hI => by
  rw [am_do_d hi]
  unfold am_dflt
  rw [hp, hb, hs]
  unfold am_tg
  dsimp only
  rw [e]
  exact ⟨rfl, k I hI⟩
theorem b_mn {i x y : Int32} {j : Nat} {z : Nat × Nat} (hd : decode (am_b M) pc = .ok (.invokestatic j, 3)) (hp : tb_pl (am_o M) j = (10, 0, z)) (h8 : am_w8 r ≤ 8) (e : pc + 3 = pc2) (k : bT d S R M Q pc2 al (.int (if y < x then y else x) :: r) W J g L c u) : bT d S R M Q pc al (.int y :: .int x :: r) W J g L c u := b_step hd fun I hI => by
  refine ⟨rfl, ?_⟩
  rw [show am_pl tb_G (am_o M) j = (10, 0, z) from hp]
  subst e
  exact ⟨h8, k I hI⟩
theorem b_mx {i x y : Int32} {j : Nat} {z : Nat × Nat} (hd : decode (am_b M) pc = .ok (.invokestatic j, 3)) (hp : tb_pl (am_o M) j = (11, 0, z)) (h8 : am_w8 r ≤ 8) (e : pc + 3 = pc2) (k : bT d S R M Q pc2 al (.int (if x < y then y else x) :: r) W J g L c u) : bT d S R M Q pc al (.int y :: .int x :: r) W J g L c u := b_step hd fun I hI => by
  refine ⟨rfl, ?_⟩
  rw [show am_pl tb_G (am_o M) j = (11, 0, z) from hp]
  subst e
  exact ⟨h8, k I hI⟩
/-- what a call that returns leaves -/
theorem bw_inv {j : Nat} {as : List Value} {I : bw_J} {v : Option Value} {W1 : bw_W} {J1 : bw_J} {g1 : Nat} {L1 : bw_L} {c2 u2 : Nat} (hI : bw_hp R W J I) (h8 : am_w8 r ≤ 8) (hc : c + am_mc (tb_mt j) = c2) (hu : u + am_ms (tb_mt j) = u2) (hc2 : c2 ≤ am_mc M) (hu2 : u2 ≤ am_ms M) (hm : bm d S R j as W J g L (bR v W1 J1 g1 L1)) (e : pc + 3 = pc2) (k : bT d S R M Q pc2 al (v.toList ++ r) W1 J1 g1 L1 c2 u2) :
    am_inv (am_C tb_G d) tb_G M (am_T (am_C tb_G d) tb_G M (bw_Q S R Q)) (bw_Q S R Q) j as pc al r (S, g, I, L) c u := by
  obtain ⟨o, h', q1, W2, J2, g2, I2, L2, rfl, q2, rfl, rfl, rfl, rfl, rfl⟩ := hm I hI
  subst hc; subst hu; subst e
  exact ⟨h8, hc2, hu2, .inl v, _, q1, k I2 q2⟩
theorem b_cs {i j z t : Nat} {as : List Value} {v : Option Value} {W1 : bw_W} {J1 : bw_J} {g1 : Nat} {L1 : bw_L} {c2 u2 : Nat} (hm : bm d S R j as W J g L (bR v W1 J1 g1 L1)) (hd : decode (am_b M) pc = .ok (.invokestatic i, 3)) (hp : tb_pl (am_o M) i = (2, j, t, z)) (ht : t = 1 ∨ t = 4) (hn : am_np (tb_mt j) ≤ st.length) (ha : (st.take (am_np (tb_mt j))).reverse = as) (hr : st.drop (am_np (tb_mt j)) = r) (h8 : am_w8 r ≤ 8) (hc : c + am_mc (tb_mt j) = c2) (hu : u + am_ms (tb_mt j) = u2) (hc2 : c2 ≤ am_mc M) (hu2 : u2 ≤ am_ms M) (e : pc + 3 = pc2) (k : bT d S R M Q pc2 al (v.toList ++ r) W1 J1 g1 L1 c2 u2) : bT d S R M Q pc al st W J g L c u := b_step hd fun I hI => by
  refine ⟨rfl, ?_⟩
  have key := bw_inv (M := M) (Q := Q) (pc := pc) (al := al) hI h8 hc hu hc2 hu2 hm e k
  subst ha; subst hr
  rcases ht with rfl | rfl
  · rw [show am_pl tb_G (am_o M) i = (2, j, 1, z) from hp]; exact ⟨hn, key⟩
  · rw [show am_pl tb_G (am_o M) i = (2, j, 4, z) from hp]; exact ⟨hn, key⟩
theorem b_cv {i j z b : Nat} {as : List Value} {v : Option Value} {W1 : bw_W} {J1 : bw_J} {g1 : Nat} {L1 : bw_L} {c2 u2 : Nat} (hm : bm d S R j (.ref b :: as) W J g L (bR v W1 J1 g1 L1)) (hd : decode (am_b M) pc = .ok (.invokevirtual i, 3)) (hp : tb_pl (am_o M) i = (2, j, 0, z)) (hn : am_np (tb_mt j) ≤ st.length) (ha : (st.take (am_np (tb_mt j))).reverse = as) (hr : st.drop (am_np (tb_mt j)) = .ref b :: r) (hs : S.1 b = some (am_o (tb_mt j), tb_nf (am_o (tb_mt j)))) (h8 : am_w8 r ≤ 8) (hc : c + am_mc (tb_mt j) = c2) (hu : u + am_ms (tb_mt j) = u2) (hc2 : c2 ≤ am_mc M) (hu2 : u2 ≤ am_ms M) (e : pc + 3 = pc2) (k : bT d S R M Q pc2 al (v.toList ++ r) W1 J1 g1 L1 c2 u2) : bT d S R M Q pc al st W J g L c u := b_step hd fun I hI => by
  refine ⟨rfl, ?_⟩
  have key := bw_inv (M := M) (Q := Q) (pc := pc) (al := al) hI h8 hc hu hc2 hu2 hm e k
  subst ha
  rw [show am_pl tb_G (am_o M) i = (2, j, 0, z) from hp]
  refine ⟨hn, ?_⟩
  show am_str (st.drop (am_np (tb_mt j))) _
  rw [hr]
  exact ⟨hs, key⟩
/-- a call that may end in several ways -/
theorem bw_invQ {j : Nat} {as : List Value} {I : bw_J} {Q1 : am_O → bw_W → bw_J → Nat → bw_L → Prop} {c2 u2 : Nat} (hI : bw_hp R W J I) (h8 : am_w8 r ≤ 8) (hc : c + am_mc (tb_mt j) = c2) (hu : u + am_ms (tb_mt j) = u2) (hc2 : c2 ≤ am_mc M) (hu2 : u2 ≤ am_ms M) (hm : bm d S R j as W J g L Q1) (e : pc + 3 = pc2)
    (k : ∀ o W1 J1 g1 L1, Q1 o W1 J1 g1 L1 → (∃ v, o = .inl v ∧ bT d S R M Q pc2 al (v.toList ++ r) W1 J1 g1 L1 c2 u2) ∨ (∃ x, o = .inr x ∧ ((am_hs M = [] ∧ Q (.inr x) W1 J1 g1 L1) ∨ ∃ t, am_hf (fun i => (tb_pl (am_o M) i).2.1) (am_hs M) pc x = some t ∧ x < 4 ∧ bT d S R M Q t al [.ref (S.2.2 + g1)] W1 J1 g1 L1 c2 u2))) :
    am_inv (am_C tb_G d) tb_G M (am_T (am_C tb_G d) tb_G M (bw_Q S R Q)) (bw_Q S R Q) j as pc al r (S, g, I, L) c u := by
  obtain ⟨o, h', q1, W2, J2, g2, I2, L2, rfl, q2, q3⟩ := hm I hI
  subst hc; subst hu; subst e
  refine ⟨h8, hc2, hu2, o, _, q1, ?_⟩
  rcases k _ _ _ _ _ q3 with ⟨v, rfl, k⟩ | ⟨x, rfl, ⟨k1, k2⟩ | ⟨t, k1, k2, k3⟩⟩
  · exact k I2 q2
  · show (match am_hf (fun i => (am_pl tb_G (am_o M) i).2.1) (am_hs M) pc x with
      | some t => x < 4 ∧ _
      | none => am_hs M = [] ∧ _)
    rw [k1]
    exact ⟨rfl, W2, J2, g2, I2, L2, rfl, q2, k2⟩
  · show (match am_hf (fun i => (am_pl tb_G (am_o M) i).2.1) (am_hs M) pc x with
      | some t => x < 4 ∧ _
      | none => am_hs M = [] ∧ _)
    rw [show am_hf (fun i => (am_pl tb_G (am_o M) i).2.1) (am_hs M) pc x = some t from k1]
    exact ⟨k2, k3 I2 q2⟩
theorem b_csQ {i j z t : Nat} {as : List Value} {Q1 : am_O → bw_W → bw_J → Nat → bw_L → Prop} {c2 u2 : Nat} (hm : bm d S R j as W J g L Q1) (hd : decode (am_b M) pc = .ok (.invokestatic i, 3)) (hp : tb_pl (am_o M) i = (2, j, t, z)) (ht : t = 1 ∨ t = 4) (hn : am_np (tb_mt j) ≤ st.length) (ha : (st.take (am_np (tb_mt j))).reverse = as) (hr : st.drop (am_np (tb_mt j)) = r) (h8 : am_w8 r ≤ 8) (hc : c + am_mc (tb_mt j) = c2) (hu : u + am_ms (tb_mt j) = u2) (hc2 : c2 ≤ am_mc M) (hu2 : u2 ≤ am_ms M) (e : pc + 3 = pc2)
    (k : ∀ o W1 J1 g1 L1, Q1 o W1 J1 g1 L1 → (∃ v, o = .inl v ∧ bT d S R M Q pc2 al (v.toList ++ r) W1 J1 g1 L1 c2 u2) ∨ (∃ x, o = .inr x ∧ ((am_hs M = [] ∧ Q (.inr x) W1 J1 g1 L1) ∨ ∃ t, am_hf (fun i => (tb_pl (am_o M) i).2.1) (am_hs M) pc x = some t ∧ x < 4 ∧ bT d S R M Q t al [.ref (S.2.2 + g1)] W1 J1 g1 L1 c2 u2))) : bT d S R M Q pc al st W J g L c u := b_step hd fun I hI => by
  refine ⟨rfl, ?_⟩
  have key := bw_invQ (M := M) (Q := Q) (pc := pc) (al := al) hI h8 hc hu hc2 hu2 hm e k
  subst ha; subst hr
  rcases ht with rfl | rfl
  · rw [show am_pl tb_G (am_o M) i = (2, j, 1, z) from hp]; exact ⟨hn, key⟩
  · rw [show am_pl tb_G (am_o M) i = (2, j, 4, z) from hp]; exact ⟨hn, key⟩
theorem b_cvQ {i j z b : Nat} {as : List Value} {Q1 : am_O → bw_W → bw_J → Nat → bw_L → Prop} {c2 u2 : Nat} (hm : bm d S R j (.ref b :: as) W J g L Q1) (hd : decode (am_b M) pc = .ok (.invokevirtual i, 3)) (hp : tb_pl (am_o M) i = (2, j, 0, z)) (hn : am_np (tb_mt j) ≤ st.length) (ha : (st.take (am_np (tb_mt j))).reverse = as) (hr : st.drop (am_np (tb_mt j)) = .ref b :: r) (hs : S.1 b = some (am_o (tb_mt j), tb_nf (am_o (tb_mt j)))) (h8 : am_w8 r ≤ 8) (hc : c + am_mc (tb_mt j) = c2) (hu : u + am_ms (tb_mt j) = u2) (hc2 : c2 ≤ am_mc M) (hu2 : u2 ≤ am_ms M) (e : pc + 3 = pc2)
    (k : ∀ o W1 J1 g1 L1, Q1 o W1 J1 g1 L1 → (∃ v, o = .inl v ∧ bT d S R M Q pc2 al (v.toList ++ r) W1 J1 g1 L1 c2 u2) ∨ (∃ x, o = .inr x ∧ ((am_hs M = [] ∧ Q (.inr x) W1 J1 g1 L1) ∨ ∃ t, am_hf (fun i => (tb_pl (am_o M) i).2.1) (am_hs M) pc x = some t ∧ x < 4 ∧ bT d S R M Q t al [.ref (S.2.2 + g1)] W1 J1 g1 L1 c2 u2))) : bT d S R M Q pc al st W J g L c u := b_step hd fun I hI => by
  refine ⟨rfl, ?_⟩
  have key := bw_invQ (M := M) (Q := Q) (pc := pc) (al := al) hI h8 hc hu hc2 hu2 hm e k
  subst ha
  rw [show am_pl tb_G (am_o M) i = (2, j, 0, z) from hp]
  refine ⟨hn, ?_⟩
  show am_str (st.drop (am_np (tb_mt j))) _
  rw [hr]
  exact ⟨hs, key⟩
end BW
end
