section
-- ===== PART A: goes FIRST, ahead of the names: the tables' words, and 'selects' of the private methods out of them =====
/-- a private method of a class that the tables say can be made, by its rows of tables_1 -/
def lw_okq (q : MethodName × Nat) : Prop := (q.1.cls ≠ "java/lang/invoke/MethodHandle" ∧ q.1.cls ≠ "java/lang/invoke/VarHandle") ∧ Cond.instantiable q.1.cls q.2 ∈ tables_1 ∧ Cond.privateMethod q.1 ∈ tables_1 ∧ Cond.instanceMethod q.1 ∈ tables_1
theorem lw_p0 : lw_okq (⟨"PenGuild", "save", "()V"⟩, 9) := ⟨⟨by decide +kernel, by decide +kernel⟩, List.mem_of_getElem? (i := 21) (by decide +kernel), List.mem_of_getElem? (i := 286) (by decide +kernel), List.mem_of_getElem? (i := 287) (by decide +kernel)⟩
theorem lw_p1 : lw_okq (⟨"PenGuild$PartsText", "takes", "(I)Z"⟩, 7) := ⟨⟨by decide +kernel, by decide +kernel⟩, List.mem_of_getElem? (i := 31) (by decide +kernel), List.mem_of_getElem? (i := 329) (by decide +kernel), List.mem_of_getElem? (i := 330) (by decide +kernel)⟩
theorem lw_p2 : lw_okq (⟨"PenGuild$PartsText", "takesDigit", "(I)Z"⟩, 7) := ⟨⟨by decide +kernel, by decide +kernel⟩, List.mem_of_getElem? (i := 31) (by decide +kernel), List.mem_of_getElem? (i := 333) (by decide +kernel), List.mem_of_getElem? (i := 334) (by decide +kernel)⟩
theorem lw_p3 : lw_okq (⟨"PenGuild$PartsText", "takesOne", "()Z"⟩, 7) := ⟨⟨by decide +kernel, by decide +kernel⟩, List.mem_of_getElem? (i := 31) (by decide +kernel), List.mem_of_getElem? (i := 337) (by decide +kernel), List.mem_of_getElem? (i := 338) (by decide +kernel)⟩
theorem lw_p4 : lw_okq (⟨"PenGuild$PartsText", "takesPen", "(I)Z"⟩, 7) := ⟨⟨by decide +kernel, by decide +kernel⟩, List.mem_of_getElem? (i := 31) (by decide +kernel), List.mem_of_getElem? (i := 341) (by decide +kernel), List.mem_of_getElem? (i := 342) (by decide +kernel)⟩
theorem lw_p5 : lw_okq (⟨"PenGuild$PartsText", "takesAfterOne", "(I)Z"⟩, 7) := ⟨⟨by decide +kernel, by decide +kernel⟩, List.mem_of_getElem? (i := 31) (by decide +kernel), List.mem_of_getElem? (i := 345) (by decide +kernel), List.mem_of_getElem? (i := 346) (by decide +kernel)⟩
theorem lw_p6 : lw_okq (⟨"PenGuild$PartsText", "takesStar", "(I)Z"⟩, 7) := ⟨⟨by decide +kernel, by decide +kernel⟩, List.mem_of_getElem? (i := 31) (by decide +kernel), List.mem_of_getElem? (i := 349) (by decide +kernel), List.mem_of_getElem? (i := 350) (by decide +kernel)⟩
theorem lw_p7 : lw_okq (⟨"PenGuild$PartsText", "takesComma", "(I)Z"⟩, 7) := ⟨⟨by decide +kernel, by decide +kernel⟩, List.mem_of_getElem? (i := 31) (by decide +kernel), List.mem_of_getElem? (i := 353) (by decide +kernel), List.mem_of_getElem? (i := 354) (by decide +kernel)⟩
theorem lw_p8 : lw_okq (⟨"PenGuild$PartsText", "endItem", "()V"⟩, 7) := ⟨⟨by decide +kernel, by decide +kernel⟩, List.mem_of_getElem? (i := 31) (by decide +kernel), List.mem_of_getElem? (i := 357) (by decide +kernel), List.mem_of_getElem? (i := 358) (by decide +kernel)⟩
theorem lw_p9 : lw_okq (⟨"PenGuild$PartsText", "takesFactor", "(I)Z"⟩, 7) := ⟨⟨by decide +kernel, by decide +kernel⟩, List.mem_of_getElem? (i := 31) (by decide +kernel), List.mem_of_getElem? (i := 361) (by decide +kernel), List.mem_of_getElem? (i := 362) (by decide +kernel)⟩
theorem lw_p10 : lw_okq (⟨"java/lang/Throwable", "fillInStackTrace", "(I)Ljava/lang/Throwable;"⟩, 6) := ⟨⟨by decide +kernel, by decide +kernel⟩, List.mem_of_getElem? (i := 429) (by decide +kernel), List.mem_of_getElem? (i := 427) (by decide +kernel), List.mem_of_getElem? (i := 428) (by decide +kernel)⟩
theorem lw_p11 : lw_okq (⟨"PenGuild", "findBest", "(I)V"⟩, 9) := ⟨⟨by decide +kernel, by decide +kernel⟩, List.mem_of_getElem? (i := 21) (by decide +kernel), List.mem_of_getElem? (i := 471) (by decide +kernel), List.mem_of_getElem? (i := 472) (by decide +kernel)⟩
theorem lw_p12 : lw_okq (⟨"PenGuild$Division", "begin", "(LPenGuild$State;II)V"⟩, 6) := ⟨⟨by decide +kernel, by decide +kernel⟩, List.mem_of_getElem? (i := 63) (by decide +kernel), List.mem_of_getElem? (i := 479) (by decide +kernel), List.mem_of_getElem? (i := 480) (by decide +kernel)⟩
theorem lw_p13 : lw_okq (⟨"PenGuild$Division", "split", "(LPenGuild$Pieces;II)V"⟩, 6) := ⟨⟨by decide +kernel, by decide +kernel⟩, List.mem_of_getElem? (i := 63) (by decide +kernel), List.mem_of_getElem? (i := 483) (by decide +kernel), List.mem_of_getElem? (i := 484) (by decide +kernel)⟩
theorem lw_p14 : lw_okq (⟨"PenGuild$Division", "giveUnit", "()V"⟩, 6) := ⟨⟨by decide +kernel, by decide +kernel⟩, List.mem_of_getElem? (i := 63) (by decide +kernel), List.mem_of_getElem? (i := 501) (by decide +kernel), List.mem_of_getElem? (i := 502) (by decide +kernel)⟩
theorem lw_p15 : lw_okq (⟨"PenGuild$Division", "cutToCap", "(LPenGuild$Pieces;II)V"⟩, 6) := ⟨⟨by decide +kernel, by decide +kernel⟩, List.mem_of_getElem? (i := 63) (by decide +kernel), List.mem_of_getElem? (i := 505) (by decide +kernel), List.mem_of_getElem? (i := 506) (by decide +kernel)⟩
def lw_privs_1 : List (MethodName × Nat) := [(⟨"PenGuild", "save", "()V"⟩, 9), (⟨"PenGuild$PartsText", "takes", "(I)Z"⟩, 7), (⟨"PenGuild$PartsText", "takesDigit", "(I)Z"⟩, 7), (⟨"PenGuild$PartsText", "takesOne", "()Z"⟩, 7), (⟨"PenGuild$PartsText", "takesPen", "(I)Z"⟩, 7), (⟨"PenGuild$PartsText", "takesAfterOne", "(I)Z"⟩, 7), (⟨"PenGuild$PartsText", "takesStar", "(I)Z"⟩, 7), (⟨"PenGuild$PartsText", "takesComma", "(I)Z"⟩, 7), (⟨"PenGuild$PartsText", "endItem", "()V"⟩, 7), (⟨"PenGuild$PartsText", "takesFactor", "(I)Z"⟩, 7), (⟨"java/lang/Throwable", "fillInStackTrace", "(I)Ljava/lang/Throwable;"⟩, 6), (⟨"PenGuild", "findBest", "(I)V"⟩, 9), (⟨"PenGuild$Division", "begin", "(LPenGuild$State;II)V"⟩, 6), (⟨"PenGuild$Division", "split", "(LPenGuild$Pieces;II)V"⟩, 6), (⟨"PenGuild$Division", "giveUnit", "()V"⟩, 6), (⟨"PenGuild$Division", "cutToCap", "(LPenGuild$Pieces;II)V"⟩, 6)]
theorem lw_r1 : ∀ q ∈ lw_privs_1, lw_okq q := List.forall_mem_cons.mpr ⟨lw_p0, List.forall_mem_cons.mpr ⟨lw_p1, List.forall_mem_cons.mpr ⟨lw_p2, List.forall_mem_cons.mpr ⟨lw_p3, List.forall_mem_cons.mpr ⟨lw_p4, List.forall_mem_cons.mpr ⟨lw_p5, List.forall_mem_cons.mpr ⟨lw_p6, List.forall_mem_cons.mpr ⟨lw_p7, List.forall_mem_cons.mpr ⟨lw_p8, List.forall_mem_cons.mpr ⟨lw_p9, List.forall_mem_cons.mpr ⟨lw_p10, List.forall_mem_cons.mpr ⟨lw_p11, List.forall_mem_cons.mpr ⟨lw_p12, List.forall_mem_cons.mpr ⟨lw_p13, List.forall_mem_cons.mpr ⟨lw_p14, List.forall_mem_cons.mpr ⟨lw_p15, fun _ h => absurd h List.not_mem_nil⟩⟩⟩⟩⟩⟩⟩⟩⟩⟩⟩⟩⟩⟩⟩⟩
theorem lw_p16 : lw_okq (⟨"PenGuild", "preferIfBetter", "(I)V"⟩, 9) := ⟨⟨by decide +kernel, by decide +kernel⟩, List.mem_of_getElem? (i := 21) (by decide +kernel), List.mem_of_getElem? (i := 509) (by decide +kernel), List.mem_of_getElem? (i := 510) (by decide +kernel)⟩
theorem lw_p17 : lw_okq (⟨"PenGuild", "gainOf", "(I)I"⟩, 9) := ⟨⟨by decide +kernel, by decide +kernel⟩, List.mem_of_getElem? (i := 21) (by decide +kernel), List.mem_of_getElem? (i := 513) (by decide +kernel), List.mem_of_getElem? (i := 514) (by decide +kernel)⟩
theorem lw_p18 : lw_okq (⟨"PenGuild", "mixPen", "(JI)J"⟩, 9) := ⟨⟨by decide +kernel, by decide +kernel⟩, List.mem_of_getElem? (i := 21) (by decide +kernel), List.mem_of_getElem? (i := 520) (by decide +kernel), List.mem_of_getElem? (i := 521) (by decide +kernel)⟩
theorem lw_p19 : lw_okq (⟨"PenGuild", "needPen", "(I)V"⟩, 9) := ⟨⟨by decide +kernel, by decide +kernel⟩, List.mem_of_getElem? (i := 21) (by decide +kernel), List.mem_of_getElem? (i := 528) (by decide +kernel), List.mem_of_getElem? (i := 529) (by decide +kernel)⟩
theorem lw_p20 : lw_okq (⟨"PenGuild", "mixPiece", "(JI)J"⟩, 9) := ⟨⟨by decide +kernel, by decide +kernel⟩, List.mem_of_getElem? (i := 21) (by decide +kernel), List.mem_of_getElem? (i := 561) (by decide +kernel), List.mem_of_getElem? (i := 562) (by decide +kernel)⟩
theorem lw_p21 : lw_okq (⟨"PenGuild", "needPiece", "(I)V"⟩, 9) := ⟨⟨by decide +kernel, by decide +kernel⟩, List.mem_of_getElem? (i := 21) (by decide +kernel), List.mem_of_getElem? (i := 569) (by decide +kernel), List.mem_of_getElem? (i := 570) (by decide +kernel)⟩
theorem lw_p22 : lw_okq (⟨"PenGuild$FairParts", "begin", "(LPenGuild$Pieces;I)V"⟩, 6) := ⟨⟨by decide +kernel, by decide +kernel⟩, List.mem_of_getElem? (i := 93) (by decide +kernel), List.mem_of_getElem? (i := 597) (by decide +kernel), List.mem_of_getElem? (i := 598) (by decide +kernel)⟩
theorem lw_p23 : lw_okq (⟨"PenGuild$Pieces", "writerWithMost", "(II)I"⟩, 9) := ⟨⟨by decide +kernel, by decide +kernel⟩, List.mem_of_getElem? (i := 160) (by decide +kernel), List.mem_of_getElem? (i := 605) (by decide +kernel), List.mem_of_getElem? (i := 606) (by decide +kernel)⟩
theorem lw_p24 : lw_okq (⟨"PenGuild$FairParts", "setTrial", "(I)I"⟩, 6) := ⟨⟨by decide +kernel, by decide +kernel⟩, List.mem_of_getElem? (i := 93) (by decide +kernel), List.mem_of_getElem? (i := 614) (by decide +kernel), List.mem_of_getElem? (i := 615) (by decide +kernel)⟩
theorem lw_p25 : lw_okq (⟨"PenGuild$FairParts", "gap", "(I)I"⟩, 6) := ⟨⟨by decide +kernel, by decide +kernel⟩, List.mem_of_getElem? (i := 93) (by decide +kernel), List.mem_of_getElem? (i := 618) (by decide +kernel), List.mem_of_getElem? (i := 619) (by decide +kernel)⟩
theorem lw_p26 : lw_okq (⟨"PenGuild$FairParts", "keepTrial", "()V"⟩, 6) := ⟨⟨by decide +kernel, by decide +kernel⟩, List.mem_of_getElem? (i := 93) (by decide +kernel), List.mem_of_getElem? (i := 624) (by decide +kernel), List.mem_of_getElem? (i := 625) (by decide +kernel)⟩
theorem lw_p27 : lw_okq (⟨"PenGuild", "needUnended", "(I)V"⟩, 9) := ⟨⟨by decide +kernel, by decide +kernel⟩, List.mem_of_getElem? (i := 21) (by decide +kernel), List.mem_of_getElem? (i := 736) (by decide +kernel), List.mem_of_getElem? (i := 737) (by decide +kernel)⟩
theorem lw_p28 : lw_okq (⟨"PenGuild", "bringIn", "(I)I"⟩, 9) := ⟨⟨by decide +kernel, by decide +kernel⟩, List.mem_of_getElem? (i := 21) (by decide +kernel), List.mem_of_getElem? (i := 783) (by decide +kernel), List.mem_of_getElem? (i := 784) (by decide +kernel)⟩
theorem lw_p29 : lw_okq (⟨"PenGuild", "needAccepted", "(I)V"⟩, 9) := ⟨⟨by decide +kernel, by decide +kernel⟩, List.mem_of_getElem? (i := 21) (by decide +kernel), List.mem_of_getElem? (i := 806) (by decide +kernel), List.mem_of_getElem? (i := 807) (by decide +kernel)⟩
theorem lw_p30 : lw_okq (⟨"PenGuildModel", "fails", "(I)I"⟩, 21) := ⟨⟨by decide +kernel, by decide +kernel⟩, List.mem_of_getElem? (i := 889) (by decide +kernel), List.mem_of_getElem? (i := 967) (by decide +kernel), List.mem_of_getElem? (i := 968) (by decide +kernel)⟩
theorem lw_p31 : lw_okq (⟨"PenGuildModel", "save", "()V"⟩, 21) := ⟨⟨by decide +kernel, by decide +kernel⟩, List.mem_of_getElem? (i := 889) (by decide +kernel), List.mem_of_getElem? (i := 971) (by decide +kernel), List.mem_of_getElem? (i := 972) (by decide +kernel)⟩
def lw_privs_2 : List (MethodName × Nat) := [(⟨"PenGuild", "preferIfBetter", "(I)V"⟩, 9), (⟨"PenGuild", "gainOf", "(I)I"⟩, 9), (⟨"PenGuild", "mixPen", "(JI)J"⟩, 9), (⟨"PenGuild", "needPen", "(I)V"⟩, 9), (⟨"PenGuild", "mixPiece", "(JI)J"⟩, 9), (⟨"PenGuild", "needPiece", "(I)V"⟩, 9), (⟨"PenGuild$FairParts", "begin", "(LPenGuild$Pieces;I)V"⟩, 6), (⟨"PenGuild$Pieces", "writerWithMost", "(II)I"⟩, 9), (⟨"PenGuild$FairParts", "setTrial", "(I)I"⟩, 6), (⟨"PenGuild$FairParts", "gap", "(I)I"⟩, 6), (⟨"PenGuild$FairParts", "keepTrial", "()V"⟩, 6), (⟨"PenGuild", "needUnended", "(I)V"⟩, 9), (⟨"PenGuild", "bringIn", "(I)I"⟩, 9), (⟨"PenGuild", "needAccepted", "(I)V"⟩, 9), (⟨"PenGuildModel", "fails", "(I)I"⟩, 21), (⟨"PenGuildModel", "save", "()V"⟩, 21)]
theorem lw_r2 : ∀ q ∈ lw_privs_2, lw_okq q := List.forall_mem_cons.mpr ⟨lw_p16, List.forall_mem_cons.mpr ⟨lw_p17, List.forall_mem_cons.mpr ⟨lw_p18, List.forall_mem_cons.mpr ⟨lw_p19, List.forall_mem_cons.mpr ⟨lw_p20, List.forall_mem_cons.mpr ⟨lw_p21, List.forall_mem_cons.mpr ⟨lw_p22, List.forall_mem_cons.mpr ⟨lw_p23, List.forall_mem_cons.mpr ⟨lw_p24, List.forall_mem_cons.mpr ⟨lw_p25, List.forall_mem_cons.mpr ⟨lw_p26, List.forall_mem_cons.mpr ⟨lw_p27, List.forall_mem_cons.mpr ⟨lw_p28, List.forall_mem_cons.mpr ⟨lw_p29, List.forall_mem_cons.mpr ⟨lw_p30, List.forall_mem_cons.mpr ⟨lw_p31, fun _ h => absurd h List.not_mem_nil⟩⟩⟩⟩⟩⟩⟩⟩⟩⟩⟩⟩⟩⟩⟩⟩
theorem lw_p32 : lw_okq (⟨"PenGuildModel", "isPen", "(I)Z"⟩, 21) := ⟨⟨by decide +kernel, by decide +kernel⟩, List.mem_of_getElem? (i := 889) (by decide +kernel), List.mem_of_getElem? (i := 979) (by decide +kernel), List.mem_of_getElem? (i := 980) (by decide +kernel)⟩
theorem lw_p33 : lw_okq (⟨"PenGuildModel", "of", "(II)I"⟩, 21) := ⟨⟨by decide +kernel, by decide +kernel⟩, List.mem_of_getElem? (i := 889) (by decide +kernel), List.mem_of_getElem? (i := 987) (by decide +kernel), List.mem_of_getElem? (i := 988) (by decide +kernel)⟩
theorem lw_p34 : lw_okq (⟨"PenGuildModel", "sold", "(III)I"⟩, 21) := ⟨⟨by decide +kernel, by decide +kernel⟩, List.mem_of_getElem? (i := 889) (by decide +kernel), List.mem_of_getElem? (i := 991) (by decide +kernel), List.mem_of_getElem? (i := 992) (by decide +kernel)⟩
theorem lw_p35 : lw_okq (⟨"PenGuildModel", "isPiece", "(I)Z"⟩, 21) := ⟨⟨by decide +kernel, by decide +kernel⟩, List.mem_of_getElem? (i := 889) (by decide +kernel), List.mem_of_getElem? (i := 1026) (by decide +kernel), List.mem_of_getElem? (i := 1027) (by decide +kernel)⟩
theorem lw_p36 : lw_okq (⟨"PenGuildModel", "in", "(II)I"⟩, 21) := ⟨⟨by decide +kernel, by decide +kernel⟩, List.mem_of_getElem? (i := 889) (by decide +kernel), List.mem_of_getElem? (i := 1030) (by decide +kernel), List.mem_of_getElem? (i := 1031) (by decide +kernel)⟩
theorem lw_p37 : lw_okq (⟨"PenGuildModel", "allDrafts", "(I)I"⟩, 21) := ⟨⟨by decide +kernel, by decide +kernel⟩, List.mem_of_getElem? (i := 889) (by decide +kernel), List.mem_of_getElem? (i := 1034) (by decide +kernel), List.mem_of_getElem? (i := 1035) (by decide +kernel)⟩
theorem lw_p38 : lw_okq (⟨"PenGuildModel", "rowSum", "(I)I"⟩, 21) := ⟨⟨by decide +kernel, by decide +kernel⟩, List.mem_of_getElem? (i := 889) (by decide +kernel), List.mem_of_getElem? (i := 1038) (by decide +kernel), List.mem_of_getElem? (i := 1039) (by decide +kernel)⟩
theorem lw_p39 : lw_okq (⟨"PenGuildModel", "isList", "()Z"⟩, 21) := ⟨⟨by decide +kernel, by decide +kernel⟩, List.mem_of_getElem? (i := 889) (by decide +kernel), List.mem_of_getElem? (i := 1050) (by decide +kernel), List.mem_of_getElem? (i := 1051) (by decide +kernel)⟩
theorem lw_p40 : lw_okq (⟨"PenGuildModel", "read", "()I"⟩, 21) := ⟨⟨by decide +kernel, by decide +kernel⟩, List.mem_of_getElem? (i := 889) (by decide +kernel), List.mem_of_getElem? (i := 1054) (by decide +kernel), List.mem_of_getElem? (i := 1055) (by decide +kernel)⟩
theorem lw_p41 : lw_okq (⟨"PenGuildModel", "takes", "(I)Z"⟩, 21) := ⟨⟨by decide +kernel, by decide +kernel⟩, List.mem_of_getElem? (i := 889) (by decide +kernel), List.mem_of_getElem? (i := 1058) (by decide +kernel), List.mem_of_getElem? (i := 1059) (by decide +kernel)⟩
theorem lw_p42 : lw_okq (⟨"PenGuildModel", "begins", "(I)Z"⟩, 21) := ⟨⟨by decide +kernel, by decide +kernel⟩, List.mem_of_getElem? (i := 889) (by decide +kernel), List.mem_of_getElem? (i := 1062) (by decide +kernel), List.mem_of_getElem? (i := 1063) (by decide +kernel)⟩
theorem lw_p43 : lw_okq (⟨"PenGuildModel", "isUsed", "(I)Z"⟩, 21) := ⟨⟨by decide +kernel, by decide +kernel⟩, List.mem_of_getElem? (i := 889) (by decide +kernel), List.mem_of_getElem? (i := 1066) (by decide +kernel), List.mem_of_getElem? (i := 1067) (by decide +kernel)⟩
theorem lw_p44 : lw_okq (⟨"PenGuildModel", "goesOn", "(I)Z"⟩, 21) := ⟨⟨by decide +kernel, by decide +kernel⟩, List.mem_of_getElem? (i := 889) (by decide +kernel), List.mem_of_getElem? (i := 1070) (by decide +kernel), List.mem_of_getElem? (i := 1071) (by decide +kernel)⟩
theorem lw_p45 : lw_okq (⟨"PenGuildModel", "isOver", "()Z"⟩, 21) := ⟨⟨by decide +kernel, by decide +kernel⟩, List.mem_of_getElem? (i := 889) (by decide +kernel), List.mem_of_getElem? (i := 1074) (by decide +kernel), List.mem_of_getElem? (i := 1075) (by decide +kernel)⟩
theorem lw_p46 : lw_okq (⟨"PenGuildModel", "ends", "()V"⟩, 21) := ⟨⟨by decide +kernel, by decide +kernel⟩, List.mem_of_getElem? (i := 889) (by decide +kernel), List.mem_of_getElem? (i := 1078) (by decide +kernel), List.mem_of_getElem? (i := 1079) (by decide +kernel)⟩
theorem lw_p47 : lw_okq (⟨"PenGuildModel", "areThere", "()Z"⟩, 21) := ⟨⟨by decide +kernel, by decide +kernel⟩, List.mem_of_getElem? (i := 889) (by decide +kernel), List.mem_of_getElem? (i := 1082) (by decide +kernel), List.mem_of_getElem? (i := 1083) (by decide +kernel)⟩
def lw_privs_3 : List (MethodName × Nat) := [(⟨"PenGuildModel", "isPen", "(I)Z"⟩, 21), (⟨"PenGuildModel", "of", "(II)I"⟩, 21), (⟨"PenGuildModel", "sold", "(III)I"⟩, 21), (⟨"PenGuildModel", "isPiece", "(I)Z"⟩, 21), (⟨"PenGuildModel", "in", "(II)I"⟩, 21), (⟨"PenGuildModel", "allDrafts", "(I)I"⟩, 21), (⟨"PenGuildModel", "rowSum", "(I)I"⟩, 21), (⟨"PenGuildModel", "isList", "()Z"⟩, 21), (⟨"PenGuildModel", "read", "()I"⟩, 21), (⟨"PenGuildModel", "takes", "(I)Z"⟩, 21), (⟨"PenGuildModel", "begins", "(I)Z"⟩, 21), (⟨"PenGuildModel", "isUsed", "(I)Z"⟩, 21), (⟨"PenGuildModel", "goesOn", "(I)Z"⟩, 21), (⟨"PenGuildModel", "isOver", "()Z"⟩, 21), (⟨"PenGuildModel", "ends", "()V"⟩, 21), (⟨"PenGuildModel", "areThere", "()Z"⟩, 21)]
theorem lw_r3 : ∀ q ∈ lw_privs_3, lw_okq q := List.forall_mem_cons.mpr ⟨lw_p32, List.forall_mem_cons.mpr ⟨lw_p33, List.forall_mem_cons.mpr ⟨lw_p34, List.forall_mem_cons.mpr ⟨lw_p35, List.forall_mem_cons.mpr ⟨lw_p36, List.forall_mem_cons.mpr ⟨lw_p37, List.forall_mem_cons.mpr ⟨lw_p38, List.forall_mem_cons.mpr ⟨lw_p39, List.forall_mem_cons.mpr ⟨lw_p40, List.forall_mem_cons.mpr ⟨lw_p41, List.forall_mem_cons.mpr ⟨lw_p42, List.forall_mem_cons.mpr ⟨lw_p43, List.forall_mem_cons.mpr ⟨lw_p44, List.forall_mem_cons.mpr ⟨lw_p45, List.forall_mem_cons.mpr ⟨lw_p46, List.forall_mem_cons.mpr ⟨lw_p47, fun _ h => absurd h List.not_mem_nil⟩⟩⟩⟩⟩⟩⟩⟩⟩⟩⟩⟩⟩⟩⟩⟩
theorem lw_p48 : lw_okq (⟨"PenGuildModel", "allParts", "(I)I"⟩, 21) := ⟨⟨by decide +kernel, by decide +kernel⟩, List.mem_of_getElem? (i := 889) (by decide +kernel), List.mem_of_getElem? (i := 1086) (by decide +kernel), List.mem_of_getElem? (i := 1087) (by decide +kernel)⟩
theorem lw_p49 : lw_okq (⟨"PenGuildModel", "comesIn", "(IIZ)V"⟩, 21) := ⟨⟨by decide +kernel, by decide +kernel⟩, List.mem_of_getElem? (i := 889) (by decide +kernel), List.mem_of_getElem? (i := 1094) (by decide +kernel), List.mem_of_getElem? (i := 1095) (by decide +kernel)⟩
theorem lw_p50 : lw_okq (⟨"PenGuildModel", "reserves", "(I)V"⟩, 21) := ⟨⟨by decide +kernel, by decide +kernel⟩, List.mem_of_getElem? (i := 889) (by decide +kernel), List.mem_of_getElem? (i := 1098) (by decide +kernel), List.mem_of_getElem? (i := 1099) (by decide +kernel)⟩
theorem lw_p51 : lw_okq (⟨"PenGuildModel", "income", "(II)V"⟩, 21) := ⟨⟨by decide +kernel, by decide +kernel⟩, List.mem_of_getElem? (i := 889) (by decide +kernel), List.mem_of_getElem? (i := 1102) (by decide +kernel), List.mem_of_getElem? (i := 1103) (by decide +kernel)⟩
theorem lw_p52 : lw_okq (⟨"PenGuildModel", "split", "(II)V"⟩, 21) := ⟨⟨by decide +kernel, by decide +kernel⟩, List.mem_of_getElem? (i := 889) (by decide +kernel), List.mem_of_getElem? (i := 1106) (by decide +kernel), List.mem_of_getElem? (i := 1107) (by decide +kernel)⟩
theorem lw_p53 : lw_okq (⟨"PenGuildModel", "partsOf", "(II)I"⟩, 21) := ⟨⟨by decide +kernel, by decide +kernel⟩, List.mem_of_getElem? (i := 889) (by decide +kernel), List.mem_of_getElem? (i := 1110) (by decide +kernel), List.mem_of_getElem? (i := 1111) (by decide +kernel)⟩
theorem lw_p54 : lw_okq (⟨"PenGuildModel", "capped", "(III)I"⟩, 21) := ⟨⟨by decide +kernel, by decide +kernel⟩, List.mem_of_getElem? (i := 889) (by decide +kernel), List.mem_of_getElem? (i := 1114) (by decide +kernel), List.mem_of_getElem? (i := 1115) (by decide +kernel)⟩
theorem lw_p55 : lw_okq (⟨"PenGuildModel", "killFee", "(I)I"⟩, 21) := ⟨⟨by decide +kernel, by decide +kernel⟩, List.mem_of_getElem? (i := 889) (by decide +kernel), List.mem_of_getElem? (i := 1122) (by decide +kernel), List.mem_of_getElem? (i := 1123) (by decide +kernel)⟩
theorem lw_p56 : lw_okq (⟨"PenGuildModel", "canDispute", "(II)Z"⟩, 21) := ⟨⟨by decide +kernel, by decide +kernel⟩, List.mem_of_getElem? (i := 889) (by decide +kernel), List.mem_of_getElem? (i := 1134) (by decide +kernel), List.mem_of_getElem? (i := 1135) (by decide +kernel)⟩
theorem lw_p57 : lw_okq (⟨"PenGuildModel", "drafts", "(II)I"⟩, 21) := ⟨⟨by decide +kernel, by decide +kernel⟩, List.mem_of_getElem? (i := 889) (by decide +kernel), List.mem_of_getElem? (i := 1138) (by decide +kernel), List.mem_of_getElem? (i := 1139) (by decide +kernel)⟩
theorem lw_p58 : lw_okq (⟨"PenGuildModel", "layWriters", "(I)V"⟩, 21) := ⟨⟨by decide +kernel, by decide +kernel⟩, List.mem_of_getElem? (i := 889) (by decide +kernel), List.mem_of_getElem? (i := 1142) (by decide +kernel), List.mem_of_getElem? (i := 1143) (by decide +kernel)⟩
theorem lw_p59 : lw_okq (⟨"PenGuildModel", "isWriter", "(I)Z"⟩, 21) := ⟨⟨by decide +kernel, by decide +kernel⟩, List.mem_of_getElem? (i := 889) (by decide +kernel), List.mem_of_getElem? (i := 1146) (by decide +kernel), List.mem_of_getElem? (i := 1147) (by decide +kernel)⟩
theorem lw_p60 : lw_okq (⟨"PenGuildModel", "penNow", "(II)I"⟩, 21) := ⟨⟨by decide +kernel, by decide +kernel⟩, List.mem_of_getElem? (i := 889) (by decide +kernel), List.mem_of_getElem? (i := 1170) (by decide +kernel), List.mem_of_getElem? (i := 1171) (by decide +kernel)⟩
theorem lw_p61 : lw_okq (⟨"PenGuildModel", "owns", "(I)I"⟩, 21) := ⟨⟨by decide +kernel, by decide +kernel⟩, List.mem_of_getElem? (i := 889) (by decide +kernel), List.mem_of_getElem? (i := 1174) (by decide +kernel), List.mem_of_getElem? (i := 1175) (by decide +kernel)⟩
theorem lw_p62 : lw_okq (⟨"PenGuildModel", "wrote", "(I)I"⟩, 21) := ⟨⟨by decide +kernel, by decide +kernel⟩, List.mem_of_getElem? (i := 889) (by decide +kernel), List.mem_of_getElem? (i := 1178) (by decide +kernel), List.mem_of_getElem? (i := 1179) (by decide +kernel)⟩
theorem lw_p63 : lw_okq (⟨"PenGuildModel", "placeOf", "(I)I"⟩, 21) := ⟨⟨by decide +kernel, by decide +kernel⟩, List.mem_of_getElem? (i := 889) (by decide +kernel), List.mem_of_getElem? (i := 1182) (by decide +kernel), List.mem_of_getElem? (i := 1183) (by decide +kernel)⟩
def lw_privs_4 : List (MethodName × Nat) := [(⟨"PenGuildModel", "allParts", "(I)I"⟩, 21), (⟨"PenGuildModel", "comesIn", "(IIZ)V"⟩, 21), (⟨"PenGuildModel", "reserves", "(I)V"⟩, 21), (⟨"PenGuildModel", "income", "(II)V"⟩, 21), (⟨"PenGuildModel", "split", "(II)V"⟩, 21), (⟨"PenGuildModel", "partsOf", "(II)I"⟩, 21), (⟨"PenGuildModel", "capped", "(III)I"⟩, 21), (⟨"PenGuildModel", "killFee", "(I)I"⟩, 21), (⟨"PenGuildModel", "canDispute", "(II)Z"⟩, 21), (⟨"PenGuildModel", "drafts", "(II)I"⟩, 21), (⟨"PenGuildModel", "layWriters", "(I)V"⟩, 21), (⟨"PenGuildModel", "isWriter", "(I)Z"⟩, 21), (⟨"PenGuildModel", "penNow", "(II)I"⟩, 21), (⟨"PenGuildModel", "owns", "(I)I"⟩, 21), (⟨"PenGuildModel", "wrote", "(I)I"⟩, 21), (⟨"PenGuildModel", "placeOf", "(I)I"⟩, 21)]
theorem lw_r4 : ∀ q ∈ lw_privs_4, lw_okq q := List.forall_mem_cons.mpr ⟨lw_p48, List.forall_mem_cons.mpr ⟨lw_p49, List.forall_mem_cons.mpr ⟨lw_p50, List.forall_mem_cons.mpr ⟨lw_p51, List.forall_mem_cons.mpr ⟨lw_p52, List.forall_mem_cons.mpr ⟨lw_p53, List.forall_mem_cons.mpr ⟨lw_p54, List.forall_mem_cons.mpr ⟨lw_p55, List.forall_mem_cons.mpr ⟨lw_p56, List.forall_mem_cons.mpr ⟨lw_p57, List.forall_mem_cons.mpr ⟨lw_p58, List.forall_mem_cons.mpr ⟨lw_p59, List.forall_mem_cons.mpr ⟨lw_p60, List.forall_mem_cons.mpr ⟨lw_p61, List.forall_mem_cons.mpr ⟨lw_p62, List.forall_mem_cons.mpr ⟨lw_p63, fun _ h => absurd h List.not_mem_nil⟩⟩⟩⟩⟩⟩⟩⟩⟩⟩⟩⟩⟩⟩⟩⟩
theorem lw_p64 : lw_okq (⟨"PenGuildModel", "pieceNow", "(II)I"⟩, 21) := ⟨⟨by decide +kernel, by decide +kernel⟩, List.mem_of_getElem? (i := 889) (by decide +kernel), List.mem_of_getElem? (i := 1190) (by decide +kernel), List.mem_of_getElem? (i := 1191) (by decide +kernel)⟩
theorem lw_p65 : lw_okq (⟨"PenGuildModel", "pensWith", "(I)I"⟩, 21) := ⟨⟨by decide +kernel, by decide +kernel⟩, List.mem_of_getElem? (i := 889) (by decide +kernel), List.mem_of_getElem? (i := 1194) (by decide +kernel), List.mem_of_getElem? (i := 1195) (by decide +kernel)⟩
theorem lw_p66 : lw_okq (⟨"PenGuildModel", "whoDisputes", "(I)I"⟩, 21) := ⟨⟨by decide +kernel, by decide +kernel⟩, List.mem_of_getElem? (i := 889) (by decide +kernel), List.mem_of_getElem? (i := 1198) (by decide +kernel), List.mem_of_getElem? (i := 1199) (by decide +kernel)⟩
theorem lw_p67 : lw_okq (⟨"PenGuildModel", "betweenNow", "(III)I"⟩, 21) := ⟨⟨by decide +kernel, by decide +kernel⟩, List.mem_of_getElem? (i := 889) (by decide +kernel), List.mem_of_getElem? (i := 1206) (by decide +kernel), List.mem_of_getElem? (i := 1207) (by decide +kernel)⟩
theorem lw_p68 : lw_okq (⟨"PenGuildModel", "counted", "(I)I"⟩, 21) := ⟨⟨by decide +kernel, by decide +kernel⟩, List.mem_of_getElem? (i := 889) (by decide +kernel), List.mem_of_getElem? (i := 1214) (by decide +kernel), List.mem_of_getElem? (i := 1215) (by decide +kernel)⟩
theorem lw_p69 : lw_okq (⟨"PenGuildModel", "sumOf", "(I)I"⟩, 21) := ⟨⟨by decide +kernel, by decide +kernel⟩, List.mem_of_getElem? (i := 889) (by decide +kernel), List.mem_of_getElem? (i := 1218) (by decide +kernel), List.mem_of_getElem? (i := 1219) (by decide +kernel)⟩
theorem lw_p70 : lw_okq (⟨"PenGuildModel", "inStage", "(I)I"⟩, 21) := ⟨⟨by decide +kernel, by decide +kernel⟩, List.mem_of_getElem? (i := 889) (by decide +kernel), List.mem_of_getElem? (i := 1222) (by decide +kernel), List.mem_of_getElem? (i := 1223) (by decide +kernel)⟩
theorem lw_p71 : lw_okq (⟨"PenGuildModel", "soldOnes", "()I"⟩, 21) := ⟨⟨by decide +kernel, by decide +kernel⟩, List.mem_of_getElem? (i := 889) (by decide +kernel), List.mem_of_getElem? (i := 1226) (by decide +kernel), List.mem_of_getElem? (i := 1227) (by decide +kernel)⟩
theorem lw_p72 : lw_okq (⟨"PenGuildModel", "paidNow", "(III)I"⟩, 21) := ⟨⟨by decide +kernel, by decide +kernel⟩, List.mem_of_getElem? (i := 889) (by decide +kernel), List.mem_of_getElem? (i := 1238) (by decide +kernel), List.mem_of_getElem? (i := 1239) (by decide +kernel)⟩
theorem lw_p73 : lw_okq (⟨"PenGuildModel", "keep", "()V"⟩, 21) := ⟨⟨by decide +kernel, by decide +kernel⟩, List.mem_of_getElem? (i := 889) (by decide +kernel), List.mem_of_getElem? (i := 1242) (by decide +kernel), List.mem_of_getElem? (i := 1243) (by decide +kernel)⟩
theorem lw_p74 : lw_okq (⟨"PenGuildModel", "bring", "()V"⟩, 21) := ⟨⟨by decide +kernel, by decide +kernel⟩, List.mem_of_getElem? (i := 889) (by decide +kernel), List.mem_of_getElem? (i := 1246) (by decide +kernel), List.mem_of_getElem? (i := 1247) (by decide +kernel)⟩
theorem lw_p75 : lw_okq (⟨"PenGuildModel", "layFairest", "(I)V"⟩, 21) := ⟨⟨by decide +kernel, by decide +kernel⟩, List.mem_of_getElem? (i := 889) (by decide +kernel), List.mem_of_getElem? (i := 1254) (by decide +kernel), List.mem_of_getElem? (i := 1255) (by decide +kernel)⟩
theorem lw_p76 : lw_okq (⟨"PenGuildModel", "writersDrafts", "(I)I"⟩, 21) := ⟨⟨by decide +kernel, by decide +kernel⟩, List.mem_of_getElem? (i := 889) (by decide +kernel), List.mem_of_getElem? (i := 1258) (by decide +kernel), List.mem_of_getElem? (i := 1259) (by decide +kernel)⟩
theorem lw_p77 : lw_okq (⟨"PenGuildModel", "layParts", "(I)I"⟩, 21) := ⟨⟨by decide +kernel, by decide +kernel⟩, List.mem_of_getElem? (i := 889) (by decide +kernel), List.mem_of_getElem? (i := 1262) (by decide +kernel), List.mem_of_getElem? (i := 1263) (by decide +kernel)⟩
theorem lw_p78 : lw_okq (⟨"PenGuildModel", "unfair", "(III)I"⟩, 21) := ⟨⟨by decide +kernel, by decide +kernel⟩, List.mem_of_getElem? (i := 889) (by decide +kernel), List.mem_of_getElem? (i := 1266) (by decide +kernel), List.mem_of_getElem? (i := 1267) (by decide +kernel)⟩
theorem lw_p79 : lw_okq (⟨"PenGuildModel", "fairOf", "(I)I"⟩, 21) := ⟨⟨by decide +kernel, by decide +kernel⟩, List.mem_of_getElem? (i := 889) (by decide +kernel), List.mem_of_getElem? (i := 1270) (by decide +kernel), List.mem_of_getElem? (i := 1271) (by decide +kernel)⟩
def lw_privs_5 : List (MethodName × Nat) := [(⟨"PenGuildModel", "pieceNow", "(II)I"⟩, 21), (⟨"PenGuildModel", "pensWith", "(I)I"⟩, 21), (⟨"PenGuildModel", "whoDisputes", "(I)I"⟩, 21), (⟨"PenGuildModel", "betweenNow", "(III)I"⟩, 21), (⟨"PenGuildModel", "counted", "(I)I"⟩, 21), (⟨"PenGuildModel", "sumOf", "(I)I"⟩, 21), (⟨"PenGuildModel", "inStage", "(I)I"⟩, 21), (⟨"PenGuildModel", "soldOnes", "()I"⟩, 21), (⟨"PenGuildModel", "paidNow", "(III)I"⟩, 21), (⟨"PenGuildModel", "keep", "()V"⟩, 21), (⟨"PenGuildModel", "bring", "()V"⟩, 21), (⟨"PenGuildModel", "layFairest", "(I)V"⟩, 21), (⟨"PenGuildModel", "writersDrafts", "(I)I"⟩, 21), (⟨"PenGuildModel", "layParts", "(I)I"⟩, 21), (⟨"PenGuildModel", "unfair", "(III)I"⟩, 21), (⟨"PenGuildModel", "fairOf", "(I)I"⟩, 21)]
theorem lw_r5 : ∀ q ∈ lw_privs_5, lw_okq q := List.forall_mem_cons.mpr ⟨lw_p64, List.forall_mem_cons.mpr ⟨lw_p65, List.forall_mem_cons.mpr ⟨lw_p66, List.forall_mem_cons.mpr ⟨lw_p67, List.forall_mem_cons.mpr ⟨lw_p68, List.forall_mem_cons.mpr ⟨lw_p69, List.forall_mem_cons.mpr ⟨lw_p70, List.forall_mem_cons.mpr ⟨lw_p71, List.forall_mem_cons.mpr ⟨lw_p72, List.forall_mem_cons.mpr ⟨lw_p73, List.forall_mem_cons.mpr ⟨lw_p74, List.forall_mem_cons.mpr ⟨lw_p75, List.forall_mem_cons.mpr ⟨lw_p76, List.forall_mem_cons.mpr ⟨lw_p77, List.forall_mem_cons.mpr ⟨lw_p78, List.forall_mem_cons.mpr ⟨lw_p79, fun _ h => absurd h List.not_mem_nil⟩⟩⟩⟩⟩⟩⟩⟩⟩⟩⟩⟩⟩⟩⟩⟩
theorem lw_p80 : lw_okq (⟨"PenGuildModel", "bestNow", "(II)I"⟩, 21) := ⟨⟨by decide +kernel, by decide +kernel⟩, List.mem_of_getElem? (i := 889) (by decide +kernel), List.mem_of_getElem? (i := 1278) (by decide +kernel), List.mem_of_getElem? (i := 1279) (by decide +kernel)⟩
theorem lw_p81 : lw_okq (⟨"PenGuildModel", "spreadNow", "()D"⟩, 21) := ⟨⟨by decide +kernel, by decide +kernel⟩, List.mem_of_getElem? (i := 889) (by decide +kernel), List.mem_of_getElem? (i := 1286) (by decide +kernel), List.mem_of_getElem? (i := 1287) (by decide +kernel)⟩
theorem lw_p82 : lw_okq (⟨"PenGuildModel", "mix", "(J)V"⟩, 21) := ⟨⟨by decide +kernel, by decide +kernel⟩, List.mem_of_getElem? (i := 889) (by decide +kernel), List.mem_of_getElem? (i := 1295) (by decide +kernel), List.mem_of_getElem? (i := 1296) (by decide +kernel)⟩
theorem lw_p83 : lw_okq (⟨"PenGuildModel", "mixPiece", "(I)V"⟩, 21) := ⟨⟨by decide +kernel, by decide +kernel⟩, List.mem_of_getElem? (i := 889) (by decide +kernel), List.mem_of_getElem? (i := 1300) (by decide +kernel), List.mem_of_getElem? (i := 1301) (by decide +kernel)⟩
def lw_privs_6 : List (MethodName × Nat) := [(⟨"PenGuildModel", "bestNow", "(II)I"⟩, 21), (⟨"PenGuildModel", "spreadNow", "()D"⟩, 21), (⟨"PenGuildModel", "mix", "(J)V"⟩, 21), (⟨"PenGuildModel", "mixPiece", "(I)V"⟩, 21)]
theorem lw_r6 : ∀ q ∈ lw_privs_6, lw_okq q := List.forall_mem_cons.mpr ⟨lw_p80, List.forall_mem_cons.mpr ⟨lw_p81, List.forall_mem_cons.mpr ⟨lw_p82, List.forall_mem_cons.mpr ⟨lw_p83, fun _ h => absurd h List.not_mem_nil⟩⟩⟩⟩
def lw_privs : List (MethodName × Nat) := lw_privs_1 ++ (lw_privs_2 ++ (lw_privs_3 ++ (lw_privs_4 ++ (lw_privs_5 ++ (lw_privs_6)))))
def lw_tbl : List Cond := k2_sels lw_privs ++ tables_1
theorem lw_privs_ok : ∀ q ∈ lw_privs, lw_okq q := by
  show ∀ q ∈ lw_privs_1 ++ (lw_privs_2 ++ (lw_privs_3 ++ (lw_privs_4 ++ (lw_privs_5 ++ (lw_privs_6))))), lw_okq q
  exact List.forall_mem_append.mpr ⟨lw_r1, List.forall_mem_append.mpr ⟨lw_r2, List.forall_mem_append.mpr ⟨lw_r3, List.forall_mem_append.mpr ⟨lw_r4, List.forall_mem_append.mpr ⟨lw_r5, lw_r6⟩⟩⟩⟩⟩
/-- the streams that the claim lets the run draw from -/
abbrev lw_cs : List Choice := [Jvm.Choice.named "NaN.bits"]
theorem lw_bits : nanBits ∈ lw_cs := by first | decide | exact List.mem_cons_self | simp [lw_cs, nanBits]
-- ===== end of PART A; then your names; then what follows =====
/-! ===== BEGIN words of one list among another's, by their places ===== -/
theorem goodIn_r {big : List Cond} (ws : List Cond) (ps : List Nat) (hp : ws = ps.filterMap (fun i => big[i]?)) (h : ws.all goodWord = true) : GoodIn big ws := by
  intro w hw
  have h1 := List.all_eq_true.mp h w hw
  rw [hp] at hw
  obtain ⟨i, -, hi⟩ := List.mem_filterMap.mp hw
  have hm : w ∈ big := by first | exact List.mem_of_getElem? hi | exact List.getElem?_mem hi
  exact ⟨hm, good_of_word h1⟩
theorem goodIn_app {big a b : List Cond} (ha : GoodIn big a) (hb : GoodIn big b) : GoodIn big (a ++ b) := fun w h => (List.mem_append.mp h).elim (ha w) (hb w)
theorem goodIn_ca {big a b : List Cond} {c : Cond} (ha : GoodIn big (c :: a)) (hb : GoodIn big b) : GoodIn big (c :: (a ++ b)) := fun w h => (List.mem_cons.mp h).elim (fun e => ha w (List.mem_cons.mpr (Or.inl e))) (fun h => (List.mem_append.mp h).elim (fun h => ha w (List.mem_cons.mpr (Or.inr h))) (hb w))
theorem goodIn_sub {big ws : List Cond} (hm : ∀ w ∈ ws, w ∈ big) (h : ws.all goodWord = true) : GoodIn big ws := fun w hw => ⟨hm w hw, good_of_word (List.all_eq_true.mp h w hw)⟩
/-! ===== END ===== -/

/-! ===== BEGIN exceptions that leave a method, and their catching by the caller (launches without stack traces) ===== -/
section VXA
/-! The laws vx_back, vx_callV, vx_callS, vx_callSW, vx_throw0, vx_throwS follow proofs of the library, with one case more: JvmDerived/Free/Laws.lean (Back.of_free), Shelf42/LK1.lean (callV, callS), Shelf/KitTraced.lean (throwNew0V, throwNewS). -/
/-- where a method has thrown q: the class by its name, the cell, what was written, the world -/
def vx_T (XC : String → State → State → Prop) (st : State) (q : Addr) (t : State) (mc ms : Nat) (free : Addr → Prop) : Prop :=
  ∃ (E : String) (ce : Cell) (L : List Loc), XC E st t ∧ t.heap[q]? = some ce ∧ ce.vm = .none ∧ st.vm.findClass E = some ce.cls ∧ st.WarmedH t.vm ∧ st.sameButNew ({ t with vm := st.vm } : State) L mc ms ∧ ∀ z ∈ L, free z.base
def vx_Q (Qc : Array Value → State → Outcome → State → Prop) (XC : String → State → State → Prop) (mc ms : Nat) (free : Addr → Prop) : Array Value → State → Outcome → State → Prop := fun a st o t =>
  (Qc a st o t ∧ ∃ L, FrameEnd st o t L mc ms ∧ ∀ q ∈ L, free q.base) ∨ ∃ q, o = .threw q ∧ vx_T XC st q t mc ms free
/-- a callee that returns or throws -/
def vx_Met (l : Launch) (y : MethodName) (ws : List Cond) (rm : Room) (Pc : Array Value → State → Prop) (Qc : Array Value → State → Outcome → State → Prop) (XC : String → State → State → Prop) (mc ms : Nat) (free : Addr → Prop) : Prop :=
  MetFree l y (headSpec ws rm) Pc (fun _ _ _ _ _ => True) (vx_Q Qc XC mc ms free)
def vx_Post (XC : String → State → State → Prop) (mc ms : Nat) (free : Addr → Prop) : Pt → Array Value → Addr → Pt → Prop := fun A a q B =>
  ∃ (g : JFrame) (mk : MethodId) (t : State) (L : List Loc) (E : String) (ce : Cell), B.U.heap = t.heap ∧ B.U.vm = t.vm ∧ XC E (A.U.calling g mk a) t ∧ t.heap[q]? = some ce ∧ ce.vm = .none ∧ A.U.vm.findClass E = some ce.cls ∧ B.locs = A.locs ++ L ∧ (∀ z ∈ L, free z.base) ∧ B.cells = A.cells + mc ∧ B.slots = A.slots + ms
def vx_Back (l : Launch) (R : Room) (p : Program) (e : Env) (below : List Frame) (s : State) (sargs : Array Value) (y : MethodName) (len W9 : Nat)
    (Pre : Pt → Array Value → Prop) (Post : Pt → Array Value → Option Value → Pt → Prop) (PostX : Pt → Array Value → Addr → Pt → Prop) : Prop :=
  ∀ (m : MethodId) (meth : Method) (c : Code) (A : Pt) (g : JFrame) (ig : Instr) (mk : MethodId) (a : Array Value),
    Stand p l e R s m sargs below meth c A.U A.locs A.cells A.slots → g.method = m → g.locals.size = c.maxLocals → decode c.code g.pc = .ok (ig, len) →
    2 * g.monitorRoom + (g.stack.map fun v => v.category).sum ≤ W9 → A.U.methodNamed? y = some mk → Pre A a →
    (∃ (v : Option Value) (B : Pt), Stand p l e R s m sargs below meth c B.U B.locs B.cells B.slots ∧ Post A a v B ∧
      Steps p.tables e below (doInvoke e (A.U.setTop g) [] mk a).1 (B.U.setTop { g with pc := g.pc + len, stack := v.toList ++ g.stack })) ∨
    (∃ (q : Addr) (B : Pt), Stand p l e R s m sargs below meth c B.U B.locs B.cells B.slots ∧ PostX A a q B ∧
      Steps p.tables e below (doInvoke e (A.U.setTop g) [] mk a).1 ((B.U.setTop g).pushFrame (.throwing q)))
section Payer
variable {l : Launch} {R : Room} {p : Program} {e : Env} {below : List Frame} {s : State} {sargs : Array Value} {y : MethodName} {len W9 : Nat}
theorem vx_back {ws : List Cond} {rm : Room} {Pc : Array Value → State → Prop} {Qc : Array Value → State → Outcome → State → Prop} {XC : String → State → State → Prop} {mc ms : Nat} {free : Addr → Prop} {bytes : ByteArray} {maxL : Nat} {ret : Option FieldType}
    (hM : vx_Met l y ws rm Pc Qc XC mc ms free) (hblind : FrameBlind Pc) (hrc : rm.cells = mc) (hrs : rm.slots = ms)
    (hframes : rm.frames + 1 ≤ R.frames) (hlocals : W9 + (maxL + 11) + rm.locals ≤ R.locals)
    (hws : ∀ w ∈ ws, ∀ a' U, s.WarmedH U.vm → w.before a' U = true) (hcode : Cond.code y bytes maxL ret ∈ ws) (hinit : ∀ a' U, s.WarmedH U.vm → (Cond.initialized y.cls).before a' U = true) :
    vx_Back l R p e below s sargs y len W9 (PreOf R mc ms Pc) (PostOf Qc mc ms free) (vx_Post XC mc ms free) := by
  intro m meth c A g ig mk a X hg hsize hdg hW hn hp
  have h1 : (headSpec ws rm).pre.before a A.U = true := atoms_intro fun w hw => hws w hw _ _ X.warmed
  have h2 : (Cond.code y bytes maxL ret).before a A.U = true := hws _ hcode _ _ X.warmed
  have h3 : (Cond.initialized y.cls).before a A.U = true := hinit _ _ X.warmed
  have h4 : A.cells + (headSpec ws rm).room.cells ≤ R.cells := by rw [show (headSpec ws rm).room.cells = mc from hrc]; exact hp.1
  have h5 : A.slots + (headSpec ws rm).room.slots ≤ R.slots := by rw [show (headSpec ws rm).room.slots = ms from hrs]; exact hp.2.1
  have hPc : Pc a (A.U.calling g mk a) := hblind _ _ _ _ hp.2.2
  obtain ⟨U, Ls, c0, s0⟩ := A
  dsimp only [Pt.U, Pt.locs, Pt.cells, Pt.slots] at h1 h2 h3 h4 h5 X hn hPc ⊢
  obtain ⟨methY, cY, hmY, hcY, -, hlY, -, -, -, -⟩ := Cond.code_spec hn h2
  obtain ⟨kY, hkY, -⟩ := className_of_methodNamed hn
  have hinitY : kY.init = .initialized := Cond.initialized_spec (findClass_of_methodNamed hn) hkY h3
  have h : At U g.method c below := by rw [hg]; exact X.here
  have hlocals9 : W9 + (maxL + 11) + (headSpec ws rm).room.locals ≤ R.locals := hlocals
  have happ : (headSpec ws rm).appliesLoose y e.platform (U.calling g mk a) = true :=
    Spec.appliesLoose_calling (g := g) h hdg hn hkY hinitY
      (X.room_calling (g := g) (R' := (headSpec ws rm).room) hsize hmY hcY hframes (by rw [hlY]; omega) h4 h5) h1
  obtain ⟨mid, hmid⟩ := h.above
  have hfr : (U.setTop g).frames = (.java g :: mid) ++ below := by rw [State.frames_setTop' g h.top, hmid]; rfl
  obtain ⟨o, s₂, hsteps, -, hend, hq⟩ := Steps.callFree hM p X.admits X.cas X.clock (acts := []) hfr happ hPc trivial
  have hq' : vx_Q Qc XC mc ms free a (U.calling g mk a) o s₂ := hq
  rw [State.frames_setTop' g h.top] at hend
  obtain ⟨g₀, hg0⟩ := Option.isSome_iff_exists.mp h.top
  obtain ⟨r, hr⟩ := State.topJava?_eq_some.mp hg0
  have hr' : (({ U with heap := s₂.heap, slotsUsed := s₂.slotsUsed } : State).setVm s₂.vm).frames = .java g₀ :: r := hr
  rcases hq' with ⟨hqc, L, hfe, hL⟩ | ⟨q, rfl, E, ce, L, hx, hce, hcv, hcl, hW₂, hsm, hL⟩
  · obtain ⟨⟨v, rfl⟩, hW₂, e2, q2, q3, q4, q5, q6⟩ := id hfe
    have e3 : s₂ = ({ (U.calling g mk a).setFrames s₂.frames with heap := s₂.heap, slotsUsed := s₂.slotsUsed } : State).setVm s₂.vm := by
      have : s₂ = ({ s₂ with vm := (U.calling g mk a).vm } : State).setVm s₂.vm := rfl
      rw [e2] at this
      exact this
    obtain ⟨c₂, i₂, len₂, hc₂, hd₂, hf₂⟩ := hend
    have hW' : U.WarmedH s₂.vm := hW₂
    have hcc : c₂ = c := by
      have h1 : s₂.code? g.method = U.code? g.method := by
        rw [State.code?_eq, State.code?_eq, hW'.alike.method?]
      exact Option.some.inj (hc₂.symm.trans (h1.trans h.code))
    subst hcc
    have hlen : len₂ = len := by rw [hdg] at hd₂; cases hd₂; rfl
    subst hlen
    have hs₂ : s₂ = (({ U with heap := s₂.heap, slotsUsed := s₂.slotsUsed } : State).setVm s₂.vm).setTop { g with pc := g.pc + len₂, stack := v.toList ++ g.stack } := by
      refine e3.trans ?_
      rw [hf₂, State.calling_eq h.top, State.setFrames_setFrames, State.setTop_of_frames _ hr', hr]
      rfl
    have hsame : U.sameButNew ({ U with heap := s₂.heap, slotsUsed := s₂.slotsUsed } : State) L mc ms := by
      refine ⟨?_, q2, q3, q4, q5, q6⟩
      obtain ⟨t, ht, -⟩ := State.frames_cons hr
      show ({ U with heap := s₂.heap, slotsUsed := s₂.slotsUsed } : State) = { U.setFrames U.frames with heap := s₂.heap, slotsUsed := s₂.slotsUsed }
      rw [State.setFrames_self ht]
    subst hg
    refine Or.inl ⟨v, ⟨(({ U with heap := s₂.heap, slotsUsed := s₂.slotsUsed } : State).setVm s₂.vm), Ls ++ L, c0 + mc, s0 + ms⟩,
      ⟨X.admits, X.cas, X.clock, X.frames, X.room, X.hears, X.method, X.code, (X.here.setHeapUsed s₂.heap s₂.slotsUsed).setVm hW'.alike, X.tail, State.WarmedH.trans X.warmed hW', X.limits, X.bytes, X.same.trans (hsame.setVm s.vm)⟩,
      ⟨g, mk, s₂, L, rfl, rfl, hqc, rfl, hL, rfl, rfl⟩, ?_⟩
    show Steps p.tables e below _ ((({ U with heap := s₂.heap, slotsUsed := s₂.slotsUsed } : State).setVm s₂.vm).setTop { g with pc := g.pc + len₂, stack := v.toList ++ g.stack })
    rw [← hs₂]
    exact hsteps
  · obtain ⟨e2, q2, q3, q4, q5, q6⟩ := id hsm
    have e3 : s₂ = ({ (U.calling g mk a).setFrames s₂.frames with heap := s₂.heap, slotsUsed := s₂.slotsUsed } : State).setVm s₂.vm := by
      have : s₂ = ({ s₂ with vm := (U.calling g mk a).vm } : State).setVm s₂.vm := rfl
      rw [e2] at this
      exact this
    have hf₂ : s₂.frames = .throwing q :: .java g :: U.frames.tail := hend
    have hW' : U.WarmedH s₂.vm := hW₂
    have hs₂ : s₂ = ((({ U with heap := s₂.heap, slotsUsed := s₂.slotsUsed } : State).setVm s₂.vm).setTop g).pushFrame (.throwing q) := by
      refine e3.trans ?_
      rw [hf₂, State.calling_eq h.top, State.setFrames_setFrames, State.pushFrame, State.frames_setTop _ hr', State.setTop_of_frames _ hr', State.setFrames_setFrames, hr]
      rfl
    have hsame : U.sameButNew ({ U with heap := s₂.heap, slotsUsed := s₂.slotsUsed } : State) L mc ms := by
      refine ⟨?_, q2, q3, q4, q5, q6⟩
      obtain ⟨t, ht, -⟩ := State.frames_cons hr
      show ({ U with heap := s₂.heap, slotsUsed := s₂.slotsUsed } : State) = { U.setFrames U.frames with heap := s₂.heap, slotsUsed := s₂.slotsUsed }
      rw [State.setFrames_self ht]
    subst hg
    refine Or.inr ⟨q, ⟨(({ U with heap := s₂.heap, slotsUsed := s₂.slotsUsed } : State).setVm s₂.vm), Ls ++ L, c0 + mc, s0 + ms⟩,
      ⟨X.admits, X.cas, X.clock, X.frames, X.room, X.hears, X.method, X.code, (X.here.setHeapUsed s₂.heap s₂.slotsUsed).setVm hW'.alike, X.tail, State.WarmedH.trans X.warmed hW', X.limits, X.bytes, X.same.trans (hsame.setVm s.vm)⟩,
      ⟨g, mk, s₂, L, E, ce, rfl, rfl, hx, hce, hcv, hcl, rfl, hL, rfl, rfl⟩, ?_⟩
    show Steps p.tables e below _ (((({ U with heap := s₂.heap, slotsUsed := s₂.slotsUsed } : State).setVm s₂.vm).setTop g).pushFrame (.throwing q))
    rw [← hs₂]
    exact hsteps
end Payer
section Calls
variable {p : Program} {l : Launch} {e : Env} {R : Room} {s : State} {m : MethodId} {args : Array Value} {below : List Frame} {meth : Method} {c : Code} {T : State} {locs : List Loc} {cells slots : Nat}
theorem vx_callV (X : Stand p l e R s m args below meth c T locs cells slots) (hexec : p.tables.exec = Jvm.exec) {own C : String} {index : Nat} {y : MethodName} {bytes : ByteArray} {maxL : Nat} {ret : Option FieldType}
    (hown : s.vm.findClass own = some m.cls) (hlink : (Cond.methodLink own index y).before args s = true) (hinst : (Cond.instanceMethod y).before args s = true) (hsel : (Cond.selects C y y).before args s = true)
    (hcode : (Cond.code y bytes maxL ret).before args s = true) (hy : y.cls ≠ "java/lang/invoke/MethodHandle" ∧ y.cls ≠ "java/lang/invoke/VarHandle")
    {W9 : Nat} {Pre : Pt → Array Value → Prop} {Post : Pt → Array Value → Option Value → Pt → Prop} {PostX : Pt → Array Value → Addr → Pt → Prop} (hK : vx_Back l R p e below s args y 3 W9 Pre Post PostX)
    {b : Addr} {cellB : Cell} (hcell : T.heap[b]? = some cellB) (hobj : cellB.vm.isStatics = false) (hcls : s.vm.findClass C = some cellB.cls)
    {g : JFrame} (hg : g.method = m) (hsize : g.locals.size = c.maxLocals) {argsL rest : List Value} (hlen : ∀ sig, parseMethodDescriptor y.desc = some sig → argsL.length = sig.parameters.length)
    (hstack : g.stack = argsL.reverse ++ .ref b :: rest) (hW : 2 * g.monitorRoom + (rest.map fun v => v.category).sum ≤ W9) (hdg : decode c.code g.pc = .ok (.invokevirtual index, 3))
    (hpre : ∀ vm₁, s.WarmedH vm₁ → Pre ⟨T.setVm vm₁, locs, cells, slots⟩ (Value.ref b :: argsL).toArray) :
    (∃ (v : Option Value) (vm₁ : Vm) (B : Pt), s.WarmedH vm₁ ∧ Stand p l e R s m args below meth c B.U B.locs B.cells B.slots ∧ Post ⟨T.setVm vm₁, locs, cells, slots⟩ (Value.ref b :: argsL).toArray v B ∧
      ∀ target, Steps p.tables e below (B.U.setTop { g with pc := g.pc + 3, stack := v.toList ++ rest }) target → Steps p.tables e below (T.setTop g) target) ∨
    (∃ (q : Addr) (vm₁ : Vm) (B : Pt), s.WarmedH vm₁ ∧ Stand p l e R s m args below meth c B.U B.locs B.cells B.slots ∧ PostX ⟨T.setVm vm₁, locs, cells, slots⟩ (Value.ref b :: argsL).toArray q B ∧
      Steps p.tables e below (T.setTop g) ((B.U.setTop { g with stack := rest }).pushFrame (.throwing q))) := by
  obtain ⟨mk, methM, hnamed, hmethM, hstM, habM⟩ := Cond.instanceMethod_spec hinst
  obtain ⟨methM', cM, hmethM', -, -, -, -, -, -, hsigM⟩ := Cond.code_spec hnamed hcode
  cases hmethM.symm.trans hmethM'
  obtain ⟨c2, r2, m2, q1, q2, q3, q4, kP, hkP, hkPi⟩ := Cond.selects_spec hsel
  cases hcls.symm.trans q1
  cases (State.methodFound?_of_named hnamed hy).symm.trans q2
  cases hnamed.symm.trans q3
  have hselP : selectMethod e.platform s.vm cellB.cls mk = .method mk := by rw [Launch.admits_selectMethod X.admits]; exact q4
  obtain ⟨vm₁, X₁, hstep₁⟩ := X.invokevirtual hexec hown hlink hnamed hmethM hstM hkP hkPi hy (a := b) (cell := cellB) hcell
    (fun z h => by rw [h] at hobj; cases hobj) hselP hmethM habM hkP hkPi (g := g) hg (argsL := argsL) (rest := rest) (hlen _ hsigM) hstack hdg
  rcases hK m meth c ⟨T.setVm vm₁, locs, cells, slots⟩ { g with stack := rest } (.invokevirtual index) mk (Value.ref b :: argsL).toArray X₁ hg hsize hdg hW (X₁.named hnamed) (hpre vm₁ X₁.warmed) with ⟨v, B, X', hpost, hsteps⟩ | ⟨q, B, X', hpost, hsteps⟩
  · exact Or.inl ⟨v, vm₁, B, X₁.warmed, X', hpost, fun target h => hstep₁ _ fun acts => by rw [doInvoke_state]; exact hsteps.trans h⟩
  · exact Or.inr ⟨q, vm₁, B, X₁.warmed, X', hpost, hstep₁ _ fun acts => by rw [doInvoke_state]; exact hsteps⟩
theorem vx_callS (X : Stand p l e R s m args below meth c T locs cells slots) (hexec : p.tables.exec = Jvm.exec) {own : String} {index : Nat} {y : MethodName} {bytes : ByteArray} {maxL : Nat} {ret : Option FieldType}
    (hown : s.vm.findClass own = some m.cls) (hlink : (Cond.methodLink own index y).before args s = true) (hstat : (Cond.static y).before args s = true) (hinit : (Cond.initialized y.cls).before args s = true)
    (hcode : (Cond.code y bytes maxL ret).before args s = true) (hy : y.cls ≠ "java/lang/invoke/MethodHandle" ∧ y.cls ≠ "java/lang/invoke/VarHandle")
    {W9 : Nat} {Pre : Pt → Array Value → Prop} {Post : Pt → Array Value → Option Value → Pt → Prop} {PostX : Pt → Array Value → Addr → Pt → Prop} (hK : vx_Back l R p e below s args y 3 W9 Pre Post PostX)
    {g : JFrame} (hg : g.method = m) (hsize : g.locals.size = c.maxLocals) {argsL rest : List Value} (hlen : ∀ sig, parseMethodDescriptor y.desc = some sig → argsL.length = sig.parameters.length)
    (hstack : g.stack = argsL.reverse ++ rest) (hW : 2 * g.monitorRoom + (rest.map fun v => v.category).sum ≤ W9) (hdg : decode c.code g.pc = .ok (.invokestatic index, 3))
    (hpre : ∀ vm₁, s.WarmedH vm₁ → Pre ⟨T.setVm vm₁, locs, cells, slots⟩ argsL.toArray) :
    (∃ (v : Option Value) (vm₁ : Vm) (B : Pt), s.WarmedH vm₁ ∧ Stand p l e R s m args below meth c B.U B.locs B.cells B.slots ∧ Post ⟨T.setVm vm₁, locs, cells, slots⟩ argsL.toArray v B ∧
      ∀ target, Steps p.tables e below (B.U.setTop { g with pc := g.pc + 3, stack := v.toList ++ rest }) target → Steps p.tables e below (T.setTop g) target) ∨
    (∃ (q : Addr) (vm₁ : Vm) (B : Pt), s.WarmedH vm₁ ∧ Stand p l e R s m args below meth c B.U B.locs B.cells B.slots ∧ PostX ⟨T.setVm vm₁, locs, cells, slots⟩ argsL.toArray q B ∧
      Steps p.tables e below (T.setTop g) ((B.U.setTop { g with stack := rest }).pushFrame (.throwing q))) := by
  obtain ⟨mk, hnamed⟩ := Cond.code_named hcode
  obtain ⟨methM, cM, hmethM, -, -, -, -, -, -, hsigM⟩ := Cond.code_spec hnamed hcode
  have hstatic : methM.isStatic = true := Cond.static_spec hnamed hmethM hstat
  obtain ⟨kP, hkP, -⟩ := className_of_methodNamed hnamed
  have hinitP : kP.init = .initialized := Cond.initialized_spec (findClass_of_methodNamed hnamed) hkP hinit
  obtain ⟨vm₁, X₁, hstep₁⟩ := X.invokestatic hexec hown hlink hnamed hmethM hstatic hkP hinitP hy (g := g) hg (argsL := argsL) (rest := rest) (hlen _ hsigM) hstack hdg
  rcases hK m meth c ⟨T.setVm vm₁, locs, cells, slots⟩ { g with stack := rest } (.invokestatic index) mk argsL.toArray X₁ hg hsize hdg hW (X₁.named hnamed) (hpre vm₁ X₁.warmed) with ⟨v, B, X', hpost, hsteps⟩ | ⟨q, B, X', hpost, hsteps⟩
  · exact Or.inl ⟨v, vm₁, B, X₁.warmed, X', hpost, fun target h => hstep₁ _ fun acts => by rw [doInvoke_state]; exact hsteps.trans h⟩
  · exact Or.inr ⟨q, vm₁, B, X₁.warmed, X', hpost, hstep₁ _ fun acts => by rw [doInvoke_state]; exact hsteps⟩
end Calls
theorem vx_cls {s : State} {T : State} {vm₁ : Vm} {E : String} {k : ClassId} (hW : s.WarmedH vm₁) (h : (T.setVm vm₁).vm.findClass E = some k) : s.vm.findClass E = some k := by
  have h1 : vm₁.findClass E = some k := h
  rw [hW.alike.findClass] at h1
  exact h1
/-- the method's frame g, with q thrown over it -/
def vx_W (p : Program) (l : Launch) (e : Env) (R : Room) (s : State) (m : MethodId) (args : Array Value) (below : List Frame) (meth : Method) (c : Code) (H : Heap) (locs : List Loc) (cells slots : Nat) (Q : State → Prop) (g : JFrame) (q : Addr) : Prop :=
  ∀ T : State, T.heap = H → Stand p l e R s m args below meth c T locs cells slots → ∃ t, Steps p.tables e below ((T.setTop g).pushFrame (.throwing q)) t ∧ Q t
def vx_Run (p : Program) (l : Launch) (e : Env) (R : Room) (s : State) (m : MethodId) (args : Array Value) (below : List Frame) (meth : Method) (c : Code) (H : Heap) (locs : List Loc) (cells slots mc ms : Nat) (g : JFrame) (rest : List Value) (Qa : State → Outcome → State → Prop) (XC : String → State → State → Prop) (free : Addr → Prop) : Prop :=
  ∀ T : State, T.heap = H → Stand p l e R s m args below meth c T locs cells slots →
    (∃ (v : Option Value) (st₀ t T' : State) (L : List Loc), st₀.heap = H ∧ Stand p l e R s m args below meth c T' (locs ++ L) (cells + mc) (slots + ms) ∧ (∀ q ∈ L, free q.base) ∧ T'.heap = t.heap ∧ T'.vm = t.vm ∧ Qa st₀ (.returned v) t ∧
      Goes p e below T g T' { g with pc := g.pc + 3, stack := v.toList ++ rest }) ∨
    (∃ (q : Addr) (st₀ t T' : State) (L : List Loc) (E : String) (ce : Cell), st₀.heap = H ∧ Stand p l e R s m args below meth c T' (locs ++ L) (cells + mc) (slots + ms) ∧ (∀ z ∈ L, free z.base) ∧ T'.heap = t.heap ∧ T'.vm = t.vm ∧ XC E st₀ t ∧ t.heap[q]? = some ce ∧ ce.vm = .none ∧ s.vm.findClass E = some ce.cls ∧
      Steps p.tables e below (T.setTop g) ((T'.setTop { g with stack := rest }).pushFrame (.throwing q)))
def vx_X {S : Type} (px : S → Prop) (B : String → S → State → Prop) (A : Nat → Prop) : String → State → State → Prop := fun E st t => ∃ u : S, px u ∧ B E u t ∧ va_F A st t
section Runs
variable {p : Program} {l : Launch} {e : Env} {R : Room} {s : State} {m : MethodId} {args : Array Value} {below : List Frame} {meth : Method} {c : Code} {H : Heap} {locs : List Loc} {cells slots : Nat}
variable {y : MethodName} {bytes cc : ByteArray} {maxL nL mc ms n index : Nat} {ret : Option FieldType} {ws : List Cond} {rm : Room} {Pc : Array Value → State → Prop} {Qc : Array Value → State → Outcome → State → Prop} {XC : String → State → State → Prop} {free : Addr → Prop} {Ts : List Cond} {own C : String} {b : Addr} {As rest : List Value} {g : JFrame}
theorem vx_callBack (cb : CallB R s args own index y bytes maxL ret ws rm mc ms n) (hM : vx_Met l y ws rm Pc Qc XC mc ms free) (hbl : FrameBlind Pc) : vx_Back l R p e below s args y 3 8 (PreOf R mc ms Pc) (PostOf Qc mc ms free) (vx_Post XC mc ms free) := by
  obtain ⟨hrc, hrs, hfr, hlo, hws, hcw, -, hini, -⟩ := cb
  exact vx_back (bytes := bytes) (maxL := maxL) (ret := ret) hM hbl hrc hrs hfr hlo hws hcw (fun a' U hW => word_at hW (Or.inl (by first | rfl | simp [Cond.onTables, Cond.keeps, Cond.steady])) hini)
theorem vx_runV (S : CallFix p m c cc nL s args Ts own) (hM : vx_Met l y ws rm Pc Qc XC mc ms free) (cw : CallW R s args own C index y bytes maxL ret ws rm mc ms n) (hp : PreV s H C b Pc As)
    (hg : g.method = m) (hn : As.length = n) (hsize : g.locals.size = nL) (hstack : g.stack = As.reverse ++ .ref b :: rest) (hW : 2 * g.monitorRoom + (rest.map fun v => v.category).sum ≤ 8) (hdg : decode cc g.pc = .ok (.invokevirtual index, 3)) (hf : cells + mc ≤ R.cells ∧ slots + ms ≤ R.slots) :
    vx_Run p l e R s m args below meth c H locs cells slots mc ms g rest (Qc (Value.ref b :: As).toArray) XC free := by
  have hK : vx_Back l R p e below s args y 3 8 (PreOf R mc ms Pc) (PostOf Qc mc ms free) (vx_Post XC mc ms free) := vx_callBack cw.1 hM hp.1
  obtain ⟨⟨-, -, -, -, -, -, hcode, -, hy, hlen, hl⟩, hin, hse⟩ := cw
  obtain ⟨hx, hb, hml, ho, -⟩ := S
  obtain ⟨-, ⟨cellB, hcB, hoB, hclB⟩, hPc⟩ := hp
  intro T hT X
  rcases vx_callV X hx (C := C) (bytes := bytes) (maxL := maxL) (ret := ret) ho hl hin hse hcode hy hK (by rw [hT]; exact hcB) hoB hclB hg (hsize.trans hml.symm) (argsL := As) (rest := rest) (fun sig h => hn.trans (hlen sig h)) hstack hW (by rw [hb]; exact hdg)
    (fun vm₁ hW₁ => ⟨hf.1, hf.2, hPc (T.setVm vm₁) hT hW₁⟩) with ⟨v, vm₁, ⟨U', l2, c2, s2⟩, hW₁, X', ⟨g', mk, t, L, e1, e2, hq, h1, hL, h2, h3⟩, st⟩ | ⟨q, vm₁, ⟨U', l2, c2, s2⟩, hW₁, X', ⟨g', mk, t, L, E, ce, e1, e2, hq, hce, hcv, hcl, h1, hL, h2, h3⟩, st⟩
  · dsimp only [Pt.U, Pt.locs, Pt.cells, Pt.slots] at X' e1 e2 h1 h2 h3 st
    subst h1; subst h2; subst h3
    exact Or.inl ⟨v, (T.setVm vm₁).calling g' mk (Value.ref b :: As).toArray, t, U', L, hT, X', hL, e1, e2, hq, st⟩
  · dsimp only [Pt.U, Pt.locs, Pt.cells, Pt.slots] at X' e1 e2 h1 h2 h3 st hcl
    subst h1; subst h2; subst h3
    exact Or.inr ⟨q, (T.setVm vm₁).calling g' mk (Value.ref b :: As).toArray, t, U', L, E, ce, hT, X', hL, e1, e2, hq, hce, hcv, vx_cls hW₁ hcl, st⟩
theorem vx_runS (S : CallFix p m c cc nL s args Ts own) (hM : vx_Met l y ws rm Pc Qc XC mc ms free) (cw : CallB R s args own index y bytes maxL ret ws rm mc ms n ∧ (Cond.static y).before args s = true) (hp : PreS s H Pc As)
    (hg : g.method = m) (hn : As.length = n) (hsize : g.locals.size = nL) (hstack : g.stack = As.reverse ++ rest) (hW : 2 * g.monitorRoom + (rest.map fun v => v.category).sum ≤ 8) (hdg : decode cc g.pc = .ok (.invokestatic index, 3)) (hf : cells + mc ≤ R.cells ∧ slots + ms ≤ R.slots) :
    vx_Run p l e R s m args below meth c H locs cells slots mc ms g rest (Qc As.toArray) XC free := by
  have hK : vx_Back l R p e below s args y 3 8 (PreOf R mc ms Pc) (PostOf Qc mc ms free) (vx_Post XC mc ms free) := vx_callBack cw.1 hM hp.1
  obtain ⟨⟨-, -, -, -, -, -, hcode, hini, hy, hlen, hl⟩, hstt⟩ := cw
  obtain ⟨hx, hb, hml, ho, -⟩ := S
  intro T hT X
  rcases vx_callS X hx (bytes := bytes) (maxL := maxL) (ret := ret) ho hl hstt hini hcode hy hK hg (hsize.trans hml.symm) (argsL := As) (rest := rest) (fun sig h => hn.trans (hlen sig h)) hstack hW (by rw [hb]; exact hdg)
    (fun vm₁ hW₁ => ⟨hf.1, hf.2, hp.2 (T.setVm vm₁) hT hW₁⟩) with ⟨v, vm₁, ⟨U', l2, c2, s2⟩, hW₁, X', ⟨g', mk, t, L, e1, e2, hq, h1, hL, h2, h3⟩, st⟩ | ⟨q, vm₁, ⟨U', l2, c2, s2⟩, hW₁, X', ⟨g', mk, t, L, E, ce, e1, e2, hq, hce, hcv, hcl, h1, hL, h2, h3⟩, st⟩
  · dsimp only [Pt.U, Pt.locs, Pt.cells, Pt.slots] at X' e1 e2 h1 h2 h3 st
    subst h1; subst h2; subst h3
    exact Or.inl ⟨v, (T.setVm vm₁).calling g' mk As.toArray, t, U', L, hT, X', hL, e1, e2, hq, st⟩
  · dsimp only [Pt.U, Pt.locs, Pt.cells, Pt.slots] at X' e1 e2 h1 h2 h3 st hcl
    subst h1; subst h2; subst h3
    exact Or.inr ⟨q, (T.setVm vm₁).calling g' mk As.toArray, t, U', L, E, ce, hT, X', hL, e1, e2, hq, hce, hcv, vx_cls hW₁ hcl, st⟩
end Runs
section Rows
variable {p : Program} {l : Launch} {e : Env} {R : Room} {s : State} {m : MethodId} {args : Array Value} {below : List Frame} {meth : Method} {c : Code} {H : Heap} {locs : List Loc} {cells slots : Nat} {Q : State → Prop}
variable {mc ms : Nat} {free : Addr → Prop} {A0 A1 : Nat → Prop} {H0 : Heap} {a : Array Value} {pc : Nat} {ls : Array Slot} {st0 rest : List Value}
theorem vx_keep {st₀ t T' : State} {L : List Loc} (h0 : st₀.heap = H) (e1 : T'.heap = t.heap) (hS : va_S A0 H0 H locs) (hA : ∀ q, q < H.size → A1 q → A0 q) (hf : ∀ q, free q → A0 q) (hL : ∀ q ∈ L, free q.base) (hF : va_F A1 st₀ t) :
    H.size ≤ T'.heap.size ∧ (∀ q : Nat, q < H.size → ¬ A1 q → T'.heap[q]? = H[q]?) ∧ va_S A0 H0 T'.heap (locs ++ L) := by
  obtain ⟨hz, hk⟩ := hF
  rw [h0] at hz hk
  exact ⟨by rw [e1]; exact hz, fun q h1 h2 => by rw [e1]; exact hk q h1 h2,
    ⟨Nat.le_trans hS.1 (by rw [e1]; exact hz), fun q h1 h2 => by rw [e1, hk q (Nat.lt_of_lt_of_le h1 hS.1) (fun z => h2 (hA q (Nat.lt_of_lt_of_le h1 hS.1) z))]; exact hS.2.1 q h1 h2, fun q hq => by
      rcases List.mem_append.mp hq with h | h
      · exact hS.2.2 q h
      · exact hf _ (hL q h)⟩⟩
theorem vx_calli {S SX : Type} {post : Int32 → S → Prop} {px : SX → Prop} {B : S → State → Prop} {BX : String → SX → State → Prop} {AX : Nat → Prop} (hr : vx_Run p l e R s m args below meth c H locs cells slots mc ms (F0 m pc ls st0) rest (va_Qi post B A1 a) (vx_X px BX AX) free) (hS : va_S A0 H0 H locs) (hA : ∀ q, q < H.size → A1 q → A0 q) (hf : ∀ q, free q → A0 q) (hAX : ∀ q, q < H.size → AX q → A0 q)
    (kx : ∀ (E : String) (ce : Cell) (q9 : Addr) (u : SX) (t : State) (H1 : Heap) (locs1 : List Loc), t.heap = H1 → s.vm.Alike t.vm → px u → BX E u t → H.size ≤ H1.size → (∀ q : Nat, q < H.size → ¬ AX q → H1[q]? = H[q]?) → va_S A0 H0 H1 locs1 → H1[q9]? = some ce → ce.vm = .none → s.vm.findClass E = some ce.cls → vx_W p l e R s m args below meth c H1 locs1 (cells + mc) (slots + ms) Q (F0 m pc ls rest) q9)
    (kk : ∀ (r : Int32) (u : S) (t : State) (H1 : Heap) (locs1 : List Loc), t.heap = H1 → s.vm.Alike t.vm → post r u → B u t → H.size ≤ H1.size → (∀ q : Nat, q < H.size → ¬ A1 q → H1[q]? = H[q]?) → va_S A0 H0 H1 locs1 → W p l e R s m args below meth c H1 locs1 (cells + mc) (slots + ms) Q (F0 m (pc + 3) ls (.int r :: rest))) : W p l e R s m args below meth c H locs cells slots Q (F0 m pc ls st0) := by
  intro T hT X
  rcases hr T hT X with ⟨v, st₀, t, T', L, h0, X', hL, e1, e2, ⟨⟨r, u, hv, hp, hb⟩, hF⟩, st⟩ | ⟨q, st₀, t, T', L, E, ce, h0, X', hL, e1, e2, ⟨u, hp, hb, hF⟩, hce, hcv, hcl, st⟩
  · cases hv
    obtain ⟨k1, k2, k3⟩ := vx_keep h0 e1 hS hA hf hL hF
    obtain ⟨t2, a1, b1⟩ := kk r u t T'.heap (locs ++ L) e1.symm (by rw [← e2]; exact X'.warmed.alike) hp hb k1 k2 k3 T' rfl X'
    exact ⟨t2, st t2 a1, b1⟩
  · obtain ⟨k1, k2, k3⟩ := vx_keep h0 e1 hS hAX hf hL hF
    obtain ⟨t2, a1, b1⟩ := kx E ce q u t T'.heap (locs ++ L) e1.symm (by rw [← e2]; exact X'.warmed.alike) hp hb k1 k2 k3 (by rw [e1]; exact hce) hcv hcl T' rfl X'
    exact ⟨t2, st.trans a1, b1⟩
theorem vx_calll {S SX : Type} {post : Int64 → S → Prop} {px : SX → Prop} {B : S → State → Prop} {BX : String → SX → State → Prop} {AX : Nat → Prop} (hr : vx_Run p l e R s m args below meth c H locs cells slots mc ms (F0 m pc ls st0) rest (va_Ql post B A1 a) (vx_X px BX AX) free) (hS : va_S A0 H0 H locs) (hA : ∀ q, q < H.size → A1 q → A0 q) (hf : ∀ q, free q → A0 q) (hAX : ∀ q, q < H.size → AX q → A0 q)
    (kx : ∀ (E : String) (ce : Cell) (q9 : Addr) (u : SX) (t : State) (H1 : Heap) (locs1 : List Loc), t.heap = H1 → s.vm.Alike t.vm → px u → BX E u t → H.size ≤ H1.size → (∀ q : Nat, q < H.size → ¬ AX q → H1[q]? = H[q]?) → va_S A0 H0 H1 locs1 → H1[q9]? = some ce → ce.vm = .none → s.vm.findClass E = some ce.cls → vx_W p l e R s m args below meth c H1 locs1 (cells + mc) (slots + ms) Q (F0 m pc ls rest) q9)
    (kk : ∀ (r : Int64) (u : S) (t : State) (H1 : Heap) (locs1 : List Loc), t.heap = H1 → s.vm.Alike t.vm → post r u → B u t → H.size ≤ H1.size → (∀ q : Nat, q < H.size → ¬ A1 q → H1[q]? = H[q]?) → va_S A0 H0 H1 locs1 → W p l e R s m args below meth c H1 locs1 (cells + mc) (slots + ms) Q (F0 m (pc + 3) ls (.long r :: rest))) : W p l e R s m args below meth c H locs cells slots Q (F0 m pc ls st0) := by
  intro T hT X
  rcases hr T hT X with ⟨v, st₀, t, T', L, h0, X', hL, e1, e2, ⟨⟨r, u, hv, hp, hb⟩, hF⟩, st⟩ | ⟨q, st₀, t, T', L, E, ce, h0, X', hL, e1, e2, ⟨u, hp, hb, hF⟩, hce, hcv, hcl, st⟩
  · cases hv
    obtain ⟨k1, k2, k3⟩ := vx_keep h0 e1 hS hA hf hL hF
    obtain ⟨t2, a1, b1⟩ := kk r u t T'.heap (locs ++ L) e1.symm (by rw [← e2]; exact X'.warmed.alike) hp hb k1 k2 k3 T' rfl X'
    exact ⟨t2, st t2 a1, b1⟩
  · obtain ⟨k1, k2, k3⟩ := vx_keep h0 e1 hS hAX hf hL hF
    obtain ⟨t2, a1, b1⟩ := kx E ce q u t T'.heap (locs ++ L) e1.symm (by rw [← e2]; exact X'.warmed.alike) hp hb k1 k2 k3 (by rw [e1]; exact hce) hcv hcl T' rfl X'
    exact ⟨t2, st.trans a1, b1⟩
theorem vx_callf {S SX : Type} {post : UInt32 → S → Prop} {px : SX → Prop} {B : S → State → Prop} {BX : String → SX → State → Prop} {AX : Nat → Prop} (hr : vx_Run p l e R s m args below meth c H locs cells slots mc ms (F0 m pc ls st0) rest (va_Qf post B A1 a) (vx_X px BX AX) free) (hS : va_S A0 H0 H locs) (hA : ∀ q, q < H.size → A1 q → A0 q) (hf : ∀ q, free q → A0 q) (hAX : ∀ q, q < H.size → AX q → A0 q)
    (kx : ∀ (E : String) (ce : Cell) (q9 : Addr) (u : SX) (t : State) (H1 : Heap) (locs1 : List Loc), t.heap = H1 → s.vm.Alike t.vm → px u → BX E u t → H.size ≤ H1.size → (∀ q : Nat, q < H.size → ¬ AX q → H1[q]? = H[q]?) → va_S A0 H0 H1 locs1 → H1[q9]? = some ce → ce.vm = .none → s.vm.findClass E = some ce.cls → vx_W p l e R s m args below meth c H1 locs1 (cells + mc) (slots + ms) Q (F0 m pc ls rest) q9)
    (kk : ∀ (r : UInt32) (u : S) (t : State) (H1 : Heap) (locs1 : List Loc), t.heap = H1 → s.vm.Alike t.vm → post r u → B u t → H.size ≤ H1.size → (∀ q : Nat, q < H.size → ¬ A1 q → H1[q]? = H[q]?) → va_S A0 H0 H1 locs1 → W p l e R s m args below meth c H1 locs1 (cells + mc) (slots + ms) Q (F0 m (pc + 3) ls (.float r :: rest))) : W p l e R s m args below meth c H locs cells slots Q (F0 m pc ls st0) := by
  intro T hT X
  rcases hr T hT X with ⟨v, st₀, t, T', L, h0, X', hL, e1, e2, ⟨⟨r, u, hv, hp, hb⟩, hF⟩, st⟩ | ⟨q, st₀, t, T', L, E, ce, h0, X', hL, e1, e2, ⟨u, hp, hb, hF⟩, hce, hcv, hcl, st⟩
  · cases hv
    obtain ⟨k1, k2, k3⟩ := vx_keep h0 e1 hS hA hf hL hF
    obtain ⟨t2, a1, b1⟩ := kk r u t T'.heap (locs ++ L) e1.symm (by rw [← e2]; exact X'.warmed.alike) hp hb k1 k2 k3 T' rfl X'
    exact ⟨t2, st t2 a1, b1⟩
  · obtain ⟨k1, k2, k3⟩ := vx_keep h0 e1 hS hAX hf hL hF
    obtain ⟨t2, a1, b1⟩ := kx E ce q u t T'.heap (locs ++ L) e1.symm (by rw [← e2]; exact X'.warmed.alike) hp hb k1 k2 k3 (by rw [e1]; exact hce) hcv hcl T' rfl X'
    exact ⟨t2, st.trans a1, b1⟩
theorem vx_calld {S SX : Type} {post : UInt64 → S → Prop} {px : SX → Prop} {B : S → State → Prop} {BX : String → SX → State → Prop} {AX : Nat → Prop} (hr : vx_Run p l e R s m args below meth c H locs cells slots mc ms (F0 m pc ls st0) rest (va_Qd post B A1 a) (vx_X px BX AX) free) (hS : va_S A0 H0 H locs) (hA : ∀ q, q < H.size → A1 q → A0 q) (hf : ∀ q, free q → A0 q) (hAX : ∀ q, q < H.size → AX q → A0 q)
    (kx : ∀ (E : String) (ce : Cell) (q9 : Addr) (u : SX) (t : State) (H1 : Heap) (locs1 : List Loc), t.heap = H1 → s.vm.Alike t.vm → px u → BX E u t → H.size ≤ H1.size → (∀ q : Nat, q < H.size → ¬ AX q → H1[q]? = H[q]?) → va_S A0 H0 H1 locs1 → H1[q9]? = some ce → ce.vm = .none → s.vm.findClass E = some ce.cls → vx_W p l e R s m args below meth c H1 locs1 (cells + mc) (slots + ms) Q (F0 m pc ls rest) q9)
    (kk : ∀ (r : UInt64) (u : S) (t : State) (H1 : Heap) (locs1 : List Loc), t.heap = H1 → s.vm.Alike t.vm → post r u → B u t → H.size ≤ H1.size → (∀ q : Nat, q < H.size → ¬ A1 q → H1[q]? = H[q]?) → va_S A0 H0 H1 locs1 → W p l e R s m args below meth c H1 locs1 (cells + mc) (slots + ms) Q (F0 m (pc + 3) ls (.double r :: rest))) : W p l e R s m args below meth c H locs cells slots Q (F0 m pc ls st0) := by
  intro T hT X
  rcases hr T hT X with ⟨v, st₀, t, T', L, h0, X', hL, e1, e2, ⟨⟨r, u, hv, hp, hb⟩, hF⟩, st⟩ | ⟨q, st₀, t, T', L, E, ce, h0, X', hL, e1, e2, ⟨u, hp, hb, hF⟩, hce, hcv, hcl, st⟩
  · cases hv
    obtain ⟨k1, k2, k3⟩ := vx_keep h0 e1 hS hA hf hL hF
    obtain ⟨t2, a1, b1⟩ := kk r u t T'.heap (locs ++ L) e1.symm (by rw [← e2]; exact X'.warmed.alike) hp hb k1 k2 k3 T' rfl X'
    exact ⟨t2, st t2 a1, b1⟩
  · obtain ⟨k1, k2, k3⟩ := vx_keep h0 e1 hS hAX hf hL hF
    obtain ⟨t2, a1, b1⟩ := kx E ce q u t T'.heap (locs ++ L) e1.symm (by rw [← e2]; exact X'.warmed.alike) hp hb k1 k2 k3 (by rw [e1]; exact hce) hcv hcl T' rfl X'
    exact ⟨t2, st.trans a1, b1⟩
theorem vx_callv {S SX : Type} {post : S → Prop} {px : SX → Prop} {B : S → State → Prop} {BX : String → SX → State → Prop} {AX : Nat → Prop} (hr : vx_Run p l e R s m args below meth c H locs cells slots mc ms (F0 m pc ls st0) rest (va_Qv post B A1 a) (vx_X px BX AX) free) (hS : va_S A0 H0 H locs) (hA : ∀ q, q < H.size → A1 q → A0 q) (hf : ∀ q, free q → A0 q) (hAX : ∀ q, q < H.size → AX q → A0 q)
    (kx : ∀ (E : String) (ce : Cell) (q9 : Addr) (u : SX) (t : State) (H1 : Heap) (locs1 : List Loc), t.heap = H1 → s.vm.Alike t.vm → px u → BX E u t → H.size ≤ H1.size → (∀ q : Nat, q < H.size → ¬ AX q → H1[q]? = H[q]?) → va_S A0 H0 H1 locs1 → H1[q9]? = some ce → ce.vm = .none → s.vm.findClass E = some ce.cls → vx_W p l e R s m args below meth c H1 locs1 (cells + mc) (slots + ms) Q (F0 m pc ls rest) q9)
    (kk : ∀ (u : S) (t : State) (H1 : Heap) (locs1 : List Loc), t.heap = H1 → s.vm.Alike t.vm → post u → B u t → H.size ≤ H1.size → (∀ q : Nat, q < H.size → ¬ A1 q → H1[q]? = H[q]?) → va_S A0 H0 H1 locs1 → W p l e R s m args below meth c H1 locs1 (cells + mc) (slots + ms) Q (F0 m (pc + 3) ls (rest))) : W p l e R s m args below meth c H locs cells slots Q (F0 m pc ls st0) := by
  intro T hT X
  rcases hr T hT X with ⟨v, st₀, t, T', L, h0, X', hL, e1, e2, ⟨⟨u, hv, hp, hb⟩, hF⟩, st⟩ | ⟨q, st₀, t, T', L, E, ce, h0, X', hL, e1, e2, ⟨u, hp, hb, hF⟩, hce, hcv, hcl, st⟩
  · cases hv
    obtain ⟨k1, k2, k3⟩ := vx_keep h0 e1 hS hA hf hL hF
    obtain ⟨t2, a1, b1⟩ := kk u t T'.heap (locs ++ L) e1.symm (by rw [← e2]; exact X'.warmed.alike) hp hb k1 k2 k3 T' rfl X'
    exact ⟨t2, st t2 a1, b1⟩
  · obtain ⟨k1, k2, k3⟩ := vx_keep h0 e1 hS hAX hf hL hF
    obtain ⟨t2, a1, b1⟩ := kx E ce q u t T'.heap (locs ++ L) e1.symm (by rw [← e2]; exact X'.warmed.alike) hp hb k1 k2 k3 (by rw [e1]; exact hce) hcv hcl T' rfl X'
    exact ⟨t2, st.trans a1, b1⟩
/-- caught by the row x of this method's table; the rows ahead don't take it -/
theorem vx_catch {own name : String} {E : String} {ce : Cell} {q : Addr} (hown : s.vm.findClass own = some m.cls) (pre : List ExceptionTableEntry) (x : ExceptionTableEntry) (suf : List ExceptionTableEntry) (hsplit : c.exceptionTable.toList = pre ++ x :: suf)
    (hpass : ∀ z ∈ pre, covers z pc = false ∨ (z.catchType ≠ 0 ∧ ∃ nm : String, (Cond.classLink own z.catchType nm).before args s = true ∧ va_Nc E nm s)) (hx : covers x pc = true) (h0 : x.catchType ≠ 0)
    (hlink : (Cond.classLink own x.catchType name).before args s = true) (hcast : (Cond.castable E name).before args s = true) (hcell : H[q]? = some ce) (hv : ce.vm = .none) (hcl : s.vm.findClass E = some ce.cls)
    (kk : W p l e R s m args below meth c H locs cells slots Q (F0 m x.handlerPc ls [.ref q])) : vx_W p l e R s m args below meth c H locs cells slots Q (F0 m pc ls rest) q := by
  intro T hT X
  have hpl : e.platform.magicAccessors = ({} : Platform).magicAccessors := by rw [X.admits.platform]
  obtain ⟨c3, c4, hc3, hc4, hasg⟩ := Cond.castable_spec hcast
  cases Option.some.inj (hc3.symm.trans hcl)
  obtain ⟨c5, hc5, hcl5⟩ := Cond.classLink_spec hown hlink e.platform hpl
  cases Option.some.inj (hc4.symm.trans hc5)
  obtain ⟨vm', X', st⟩ := X.thenCaughtThrough q (g := F0 m pc ls rest) rfl (Steps.refl _) (by rw [hT]; exact hcell) (by rw [hv]; rfl) (by obtain ⟨k9, h9, -⟩ := Vm.findClass_spec hcl; exact ⟨k9, h9⟩) pre x suf hsplit
    (fun z hz => by
      rcases hpass z hz with h | ⟨hz0, nm, hl1, hn1⟩
      · exact Or.inl h
      · obtain ⟨c6, hc6, hcl6⟩ := Cond.classLink_spec hown hl1 e.platform hpl
        obtain ⟨a8, b8, h1, h2, h3⟩ := hn1
        cases Option.some.inj (h1.symm.trans hcl)
        cases Option.some.inj (h2.symm.trans hc6)
        exact Or.inr ⟨hz0, _, hcl6, h3⟩) hx (Or.inr ⟨h0, c4, hcl5, hasg⟩)
  obtain ⟨t, a1, b1⟩ := kk (T.setVm vm') hT X'
  exact ⟨t, st.trans a1, b1⟩
end Rows
section Ends
variable {p : Program} {l : Launch} {e : Env} {R : Room} {s : State} {m : MethodId} {args : Array Value} {below : List Frame} {meth : Method} {c : Code} {H : Heap} {locs : List Loc} {cells slots : Nat} {Q : State → Prop}
variable {mc ms : Nat} {free : Addr → Prop} {A0 A1 : Nat → Prop} {H0 : Heap} {a : Array Value} {ls : Array Slot} {st0 rest : List Value}
variable {Qc : Array Value → State → Outcome → State → Prop} {XC : String → State → State → Prop}
/-- what a body that may throw owes at its end -/
def vx_MQ (below : List Frame) (Qc : Array Value → State → Outcome → State → Prop) (XC : String → State → State → Prop) (a : Array Value) (s : State) (mc ms : Nat) (free : Addr → Prop) : State → Prop := fun t =>
  ∃ o, t.status = .running ∧ Ended t below o ∧ vx_Q Qc XC mc ms free a s o t
theorem vx_ret {g : JFrame} {mc ms : Nat} (k : W p l e R s m args below meth c H locs cells slots (MQ below Qc args s mc ms free) g) : W p l e R s m args below meth c H locs cells slots (vx_MQ below Qc XC args s mc ms free) g := by
  intro T hT X
  obtain ⟨t, a1, o, b1, b2, b3, b4⟩ := k T hT X
  exact ⟨t, a1, o, b1, b2, Or.inl ⟨b3, b4⟩⟩
/-- not caught here: it goes on to the caller -/
theorem vx_widen {g : JFrame} {q : Addr} {k n : Nat} (h1 : cells ≤ k) (h2 : slots ≤ n) (kk : vx_W p l e R s m args below meth c H locs k n Q g q) : vx_W p l e R s m args below meth c H locs cells slots Q g q := fun T hT X => kk T hT (stand_widen X h1 h2)
theorem vx_out {pc : Nat} {E : String} {ce : Cell} {q : Addr} {mc ms : Nat} (hout : ∀ x ∈ c.exceptionTable.toList, covers x pc = false) (hlocks : meth.locks = false) (hcell : H[q]? = some ce) (hv : ce.vm = .none) (hcl : s.vm.findClass E = some ce.cls)
    (hx : ∀ t : State, t.heap = H → s.vm.Alike t.vm → XC E s t) (hf : ∀ z ∈ locs, free z.base) (hc : cells ≤ mc) (hs : slots ≤ ms) :
    vx_W p l e R s m args below meth c H locs cells slots (vx_MQ below Qc XC args s mc ms free) (F0 m pc ls rest) q := by
  intro T hT X
  obtain ⟨st1, hrun, hend, hW, hsm⟩ := X.leaveThrown q (g := F0 m pc ls rest) rfl rfl rfl hout hlocks
  have hcell9 : (T.setFrames (.throwing q :: below)).heap[q]? = some ce := by
    show T.heap[q]? = some ce
    rw [hT]; exact hcell
  exact ⟨_, st1, .threw q, hrun, hend, Or.inr ⟨q, rfl, E, ce, locs, hx _ hT hW.alike, hcell9, hv, hcl, hW, hsm.mono hc hs, hf⟩⟩
theorem vx_frame {U : State} {k n : Nat} (h : s.sameButNew ({ U with vm := s.vm } : State) locs k n) : s.heap.size ≤ U.heap.size ∧ ∀ q : Nat, q < s.heap.size → (∀ z ∈ locs, z.base ≠ q) → U.heap[q]? = s.heap[q]? := by
  obtain ⟨-, h2, -, -, -, h6⟩ := h
  refine ⟨h2, fun q hq hz => ?_⟩
  obtain ⟨c9, e1, e2, e3, e4⟩ := h6 q _ (Array.getElem?_eq_getElem hq)
  have hs : c9.slots = (s.heap[q]).slots := Array.ext_getElem? fun i => e4 i fun hm => hz _ hm rfl
  have h9 : c9 = s.heap[q] := by
    rw [hs] at e2
    exact e2
  have e5 : U.heap[q]? = some c9 := e1
  rw [e5, h9, Array.getElem?_eq_getElem hq]
/-- the words of a throw but the four that speak of the heap -/
def vx_no (w : Cond) : Bool := decide (w ≠ .isRef (.static Bundle.tN "UNASSIGNED_STACK" Bundle.steD)) && decide (w ≠ .isRef (.static Bundle.tN "SUPPRESSED_SENTINEL" Bundle.listD)) && decide (w ≠ .laysStatic Bundle.tN "UNASSIGNED_STACK" Bundle.steD) && decide (w ≠ .laysStatic Bundle.tN "SUPPRESSED_SENTINEL" Bundle.listD)
def vx_at0 (own : String) (ic : Nat) (X : String) (names : List String) : List Cond := (Bundle.ownAtoms0 own ic X names).filter vx_no
def vx_atS (own : String) (ic : Nat) (X : String) (names : List String) : List Cond := (Bundle.ownAtoms own ic X names).filter vx_no
/-- a word that the tables alone decide, or a good one -/
def vx_ot (w : Cond) : Bool := w.onTables || goodWord w
theorem vx_ot_at {args a' : Array Value} {s U : State} {w : Cond} (hW : s.WarmedH U.vm) (hvm : s.vm = U.vm) (hg : vx_ot w = true) (h : w.before args s = true) : w.before a' U = true := by
  simp only [vx_ot, Bool.or_eq_true] at hg
  rcases hg with hg | hg
  · exact va_tabs hg hvm h
  · exact word_at hW (good_of_word hg) h
/-- a list's words: the good ones out of the method's own list, the others by premises of their own -/
theorem vx_hat {args : Array Value} {s : State} {L B : List Cond} (h1 : ∀ w ∈ L.filter goodWord, w.before args s = true) (h2 : ∀ w ∈ L.filter (fun w => !goodWord w), w ∈ B) (h3 : ∀ w ∈ B, w.before args s = true) : ∀ w ∈ L, w.before args s = true := by
  intro w hw
  by_cases g : goodWord w = true
  · exact h1 w (List.mem_filter.mpr ⟨hw, g⟩)
  · refine h3 w (h2 w (List.mem_filter.mpr ⟨hw, ?_⟩))
    show (!goodWord w) = true
    cases hgw : goodWord w
    · rfl
    · exact absurd hgw g
theorem vx_c {args : Array Value} {s : State} {w : Cond} {B : List Cond} (h : w.before args s = true) (t : ∀ w ∈ B, w.before args s = true) : ∀ w' ∈ w :: B, w'.before args s = true := fun w' h' => (List.mem_cons.mp h').elim (fun e => by rw [e]; exact h) (t w')
theorem vx_n {args : Array Value} {s : State} : ∀ w ∈ ([] : List Cond), w.before args s = true := fun _ h => nomatch h
theorem vx_own {args : Array Value} {s : State} {L : List Cond} (h1 : ∀ w ∈ L.filter vx_no, w.before args s = true)
    (hU : (Cond.isRef (.static Bundle.tN "UNASSIGNED_STACK" Bundle.steD)).before args s = true) (hN : (Cond.isRef (.static Bundle.tN "SUPPRESSED_SENTINEL" Bundle.listD)).before args s = true)
    (lU : (Cond.laysStatic Bundle.tN "UNASSIGNED_STACK" Bundle.steD).before args s = true) (lN : (Cond.laysStatic Bundle.tN "SUPPRESSED_SENTINEL" Bundle.listD).before args s = true) : ∀ w ∈ L, w.before args s = true := by
  intro w hw
  by_cases e1 : w = .isRef (.static Bundle.tN "UNASSIGNED_STACK" Bundle.steD)
  · rw [e1]; exact hU
  · by_cases e2 : w = .isRef (.static Bundle.tN "SUPPRESSED_SENTINEL" Bundle.listD)
    · rw [e2]; exact hN
    · by_cases e3 : w = .laysStatic Bundle.tN "UNASSIGNED_STACK" Bundle.steD
      · rw [e3]; exact lU
      · by_cases e4 : w = .laysStatic Bundle.tN "SUPPRESSED_SENTINEL" Bundle.listD
        · rw [e4]; exact lN
        · exact h1 w (List.mem_filter.mpr ⟨hw, by unfold vx_no; rw [decide_eq_true e1, decide_eq_true e2, decide_eq_true e3, decide_eq_true e4]; rfl⟩)
/-- where a static field lies, its class's statics cell in H -/
def vx_L (C n d : String) (A : Nat → Prop) (U : State) (H : Heap) : Prop := ∃ (c : ClassId) (k : Class) (i : Nat) (f : Field) (a : Nat) (cell : Cell), U.vm.findClass C = some c ∧ U.fieldFound? C n d = some (c, k, i, f) ∧ f.isStatic = true ∧ k.statics = some a ∧ H[a]? = some cell ∧ cell.vm.isStatics = true ∧ cell.cls = c ∧ f.slot < cell.slots.size ∧ k.staticTypes[f.slot]? = some f.type ∧ ¬ A a
theorem vx_L.moved {C n d : String} {A : Nat → Prop} {u U : State} {H : Heap} (hvm : u.vm.Alike U.vm) (h : vx_L C n d A u H) : vx_L C n d A U H := by
  obtain ⟨c, k, i, f, a, cell, h1, h2, h3, h4, h5, h6, h7, h8, h9, h10⟩ := h
  obtain ⟨k', hi', he⟩ := State.fieldFound?_setVm hvm h2
  exact ⟨c, k', i, f, a, cell, by rw [hvm.findClass]; exact h1, hi', h3, by rw [he]; exact h4, h5, h6, h7, h8, by rw [he]; exact h9, h10⟩
theorem vx_L.kept {C n d : String} {A : Nat → Prop} {U : State} {H H1 : Heap} (h : vx_L C n d A U H) (hq : ∀ a : Nat, a < H.size → ¬ A a → H1[a]? = H[a]?) : vx_L C n d A U H1 := by
  obtain ⟨c, k, i, f, a, cell, h1, h2, h3, h4, h5, h6, h7, h8, h9, h10⟩ := h
  exact ⟨c, k, i, f, a, cell, h1, h2, h3, h4, by rw [hq a (Array.getElem?_eq_some_iff.mp h5).1 h10]; exact h5, h6, h7, h8, h9, h10⟩
theorem vx_L.narrow {C n d : String} {A B : Nat → Prop} {U : State} {H : Heap} (h : vx_L C n d A U H) (hAB : ∀ q, B q → A q) : vx_L C n d B U H := by
  obtain ⟨c, k, i, f, a, cell, h1, h2, h3, h4, h5, h6, h7, h8, h9, h10⟩ := h
  exact ⟨c, k, i, f, a, cell, h1, h2, h3, h4, h5, h6, h7, h8, h9, fun z => h10 (hAB _ z)⟩
theorem vx_L.word {C n d : String} {A : Nat → Prop} {s : State} {args : Array Value} (h : vx_L C n d A s s.heap) : (Cond.laysStatic C n d).before args s = true := by
  obtain ⟨c, k, i, f, a, cell, h1, h2, h3, h4, h5, h6, h7, h8, h9, -⟩ := h
  show (Cond.laysStatic C n d).holds args s none s [] = true
  exact Cond.laysStatic_of h1 h2 h3 h4 h5 h6 h7 h8 h9
/-- .. and what it holds: null or some reference -/
def vx_Zq (C n d : String) (A : Nat → Prop) (U : State) (H : Heap) : Prop := va_Zq C n d A U H ∧ vx_L C n d A U H
theorem vx_Zq.moved {C n d : String} {A : Nat → Prop} {u U : State} {H : Heap} (hvm : u.vm.Alike U.vm) (h : vx_Zq C n d A u H) : vx_Zq C n d A U H := ⟨va_Zq.moved hvm h.1, vx_L.moved hvm h.2⟩
theorem vx_Zq.kept {C n d : String} {A : Nat → Prop} {U : State} {H H1 : Heap} (h : vx_Zq C n d A U H) (hq : ∀ a : Nat, a < H.size → ¬ A a → H1[a]? = H[a]?) : vx_Zq C n d A U H1 := ⟨va_Zq.kept h.1 hq, vx_L.kept h.2 hq⟩
theorem vx_Zq.narrow {C n d : String} {A B : Nat → Prop} {U : State} {H : Heap} (h : vx_Zq C n d A U H) (hAB : ∀ q, B q → A q) : vx_Zq C n d B U H := ⟨va_Zq.narrow h.1 hAB, vx_L.narrow h.2 hAB⟩
theorem vx_Zqof {args : Array Value} {s : State} {C n d : String} {A : Nat → Prop} (hl : (Cond.laysStatic C n d).before args s = true) (hini : (Cond.initialized C).before args s = true) (h : (Cond.isRef (.static C n d)).before args s = true) (hA : ∀ a : Nat, a < s.heap.size → ¬ A a) : vx_Zq C n d A s s.heap := by
  refine ⟨va_Zqof hl hini h hA, ?_⟩
  obtain ⟨c, k, i, f, a, cell, h1, h2, h3, h4, h5, h6, h7, h8, h9⟩ := Cond.laysStatic_spec hl
  exact ⟨c, k, i, f, a, cell, h1, h2, h3, h4, h5, h6, h7, h8, h9, hA a (Array.getElem?_eq_some_iff.mp h5).1⟩
theorem vx_isRef {C n d : String} {v : Value} {A : Nat → Prop} {s : State} {args : Array Value} (h : va_Z C n d v A s s.heap) (hv : v.isRef = true) : (Cond.isRef (.static C n d)).before args s = true := by
  obtain ⟨cf, kf, fi, f, a, cell, h1, h2, h3, h4, h5, h6, h7, -⟩ := h
  have he : (Term.static C n d).eval args s none [] s = some v := by
    simp [Term.eval, State.fieldNamed?, h1, h2, h4, h5, h6, h7]
  simp only [Cond.before, Cond.holds, Cond.value, he]
  cases v <;> simp_all [Value.isRef]
theorem vx_isRefq {C n d : String} {A : Nat → Prop} {s : State} {args : Array Value} (h : va_Zq C n d A s s.heap) : (Cond.isRef (.static C n d)).before args s = true := by
  rcases h with h | ⟨t, h⟩
  · exact vx_isRef h rfl
  · exact vx_isRef h rfl
/-- the same frame, seen from here: as if the method were called anew in this heap -/
theorem vx_rebase {T : State} (X : Stand p l e R s m args below meth c T locs cells slots) {R' : Room} (hf : R'.frames ≤ R.frames) (hl : R'.locals ≤ R.locals) (hc : cells + R'.cells ≤ R.cells) (hs : slots + R'.slots ≤ R.slots) :
    Stand p l e R' ((T.setVm s.vm).setFrames (.invoking m args :: below)) m args below meth c T [] 0 0 := by
  have htop : (T.setVm s.vm).topJava?.isSome := X.here.top
  have hF : ((T.setVm s.vm).setFrames (.invoking m args :: below)).frames = .invoking m args :: below := State.frames_setFrames _ (State.cur_lt_of_top htop)
  obtain ⟨g₀, hg0⟩ := Option.isSome_iff_exists.mp htop
  obtain ⟨r, hr⟩ := State.topJava?_eq_some.mp hg0
  have hl9 : e.platform.stackLimits (T.setVm s.vm).me = e.platform.stackLimits s.me := X.limits
  have hb9 : (T.setVm s.vm).me.stackBytes = s.me.stackBytes := X.bytes
  refine ⟨X.admits, X.cas, X.clock, hF, ?_, X.hears, X.method, X.code, X.here, X.tail, X.warmed, ?_, ?_, ?_⟩
  · have h := X.room
    have hU : ((T.setVm s.vm).setFrames (.invoking m args :: below)).localsInUse = s.localsInUse := by
      rw [State.localsInUse_invoking hF (meth := meth) (c := c) X.method X.code, State.localsInUse_invoking X.frames X.method X.code]
    simp only [State.hasRoom, Bool.and_eq_true, decide_eq_true_eq] at h ⊢
    obtain ⟨⟨⟨⟨h1, h2, h3, h4, h5, h6⟩, h7⟩, h8⟩, h9⟩ := h
    rw [X.frames, List.length_cons] at h2 h3
    have q1 := X.heapSize
    have q2 := X.used
    simp only [hF, hU, List.length_cons, State.stackLimits_setFrames, State.stackBytes_setFrames, hl9, hb9]
    refine ⟨⟨⟨⟨by omega, by omega, by omega, by omega, by omega, h6⟩, ?_⟩, ?_⟩, X.book⟩
    · show T.heap.size + R'.cells ≤ e.platform.maxCells
      omega
    · show T.slotsUsed + R'.slots ≤ e.platform.maxSlots
      omega
  · rw [State.stackLimits_setFrames]; rfl
  · rw [State.stackBytes_setFrames]; rfl
  · refine ⟨?_, Nat.le_refl _, Nat.le_refl _, ?_, ?_, fun a c9 h9 => ⟨c9, h9, rfl, rfl, fun _ _ => rfl⟩⟩
    · obtain ⟨t, ht, -⟩ := State.frames_cons hr
      show T.setVm s.vm = { ((T.setVm s.vm).setFrames (.invoking m args :: below)).setFrames (T.setVm s.vm).frames with heap := T.heap, slotsUsed := T.slotsUsed }
      rw [State.setFrames_setFrames, State.setFrames_self ht]
      rfl
    · show T.slotsUsed = T.slotsUsed + ((T.heap.toList.drop T.heap.size).map (·.slots.size)).sum
      rw [List.drop_eq_nil_of_le (Nat.le_of_eq Array.length_toList)]
      rfl
    · show ((T.heap.toList.drop T.heap.size).map (·.slots.size)).sum ≤ 0
      rw [List.drop_eq_nil_of_le (Nat.le_of_eq Array.length_toList)]
      exact Nat.le_refl _
/-- 'throw new E()': new; dup; invokespecial; athrow -/
theorem vx_throw0 {cc : ByteArray} {pc : Nat} (hexec : p.tables.exec = Jvm.exec) (hb : c.code = cc) (hl : l.stackTraces = false) {own cls : String} {names : List String} {ik ic mc ms : Nat} {A : Nat → Prop}
    (hown : s.vm.findClass own = some m.cls) (hcls : Bundle.fit cls = true) (hnames : ∀ n ∈ names, Bundle.fit n = true)
    (hk : (Cond.classLink own ik cls).before args s = true) (hini : (Cond.initialized cls).before args s = true) (hat : ∀ w ∈ vx_at0 own ic cls names, w.before args s = true)
    (hgood : ∀ w ∈ Cond.classLink own ik cls :: Cond.initialized cls :: vx_at0 own ic cls names, vx_ot w = true)
    (hU : vx_Zq Bundle.tN "UNASSIGNED_STACK" Bundle.steD A s s.heap) (hN : vx_Zq Bundle.tN "SUPPRESSED_SENTINEL" Bundle.listD A s s.heap) (hS : va_S A s.heap H locs) (hsize : ls.size = c.maxLocals)
    (d0 : decode cc pc = .ok (.new ik, 3)) (d3 : decode cc (pc + 3) = .ok (.dup, 1)) (d4 : decode cc (pc + 4) = .ok (.invokespecial ic, 3)) (d7 : decode cc (pc + 7) = .ok (.athrow, 1))
    (hout : ∀ x ∈ c.exceptionTable.toList, covers x (pc + 7) = false)
    (hRframes : names.length + 3 < R.frames) (hRlocals : (rest.map fun v => v.category).sum + (13 * (names.length + 1) + 42) ≤ R.locals) (hRcells : cells + 1 ≤ R.cells) (hRslots : slots + 6 ≤ R.slots) (hlocks : meth.locks = false)
    (hx : ∀ t : State, s.vm.Alike t.vm → H.size ≤ t.heap.size → (∀ q : Nat, q < H.size → t.heap[q]? = H[q]?) → XC cls s t)
    (hf : ∀ z ∈ locs, free z.base) (hc : cells + 1 ≤ mc) (hs : slots + 6 ≤ ms) :
    W p l e R s m args below meth c H locs cells slots (vx_MQ below Qc XC args s mc ms free) (F0 m pc ls rest) := by
  intro T hT X
  have htr : e.platform.stackTraces = false := (show e.platform.stackTraces = l.stackTraces by rw [X.admits.platform]).trans hl
  have Y := vx_rebase X (R' := { frames := R.frames, locals := R.locals, cells := 1, slots := 6 }) (Nat.le_refl _) (Nat.le_refl _) hRcells hRslots
  obtain ⟨s', hA⟩ : ∃ z, z = (T.setVm s.vm).setFrames (.invoking m args :: below) := ⟨_, rfl⟩
  rw [← hA] at Y
  have hvm : s'.vm = s.vm := by rw [hA]; rfl
  have hhp : s'.heap = H := by rw [hA]; exact hT
  have hW0 : s.WarmedH s'.vm := by rw [hvm]; exact State.WarmedH.refl s
  have hat' : ∀ w ∈ vx_at0 own ic cls names, w.before args s' = true := fun w hw => vx_ot_at hW0 hvm.symm (hgood w (List.mem_cons_of_mem _ (List.mem_cons_of_mem _ hw))) (hat w hw)
  have hk' : (Cond.classLink own ik cls).before args s' = true := vx_ot_at hW0 hvm.symm (hgood _ List.mem_cons_self) hk
  have hini' : (Cond.initialized cls).before args s' = true := vx_ot_at hW0 hvm.symm (hgood _ (List.mem_cons_of_mem _ List.mem_cons_self)) hini
  have hU' : vx_Zq Bundle.tN "UNASSIGNED_STACK" Bundle.steD A s' s'.heap := by rw [hhp]; exact vx_Zq.moved hW0.alike (hU.kept hS.2.1)
  have hN' : vx_Zq Bundle.tN "SUPPRESSED_SENTINEL" Bundle.listD A s' s'.heap := by rw [hhp]; exact vx_Zq.moved hW0.alike (hN.kept hS.2.1)
  have h : ∀ w ∈ Bundle.ownAtoms0 own ic cls names, w.before args s' = true := vx_own hat' (vx_isRefq hU'.1) (vx_isRefq hN'.1) hU'.2.word hN'.2.word
  have hown' : s'.vm.findClass own = some m.cls := by rw [hvm]; exact hown
  have hins : (Cond.instantiable cls 6).before args s' = true := h _ (by simp [Bundle.ownAtoms0])
  obtain ⟨vm₁, cX, kX, hfX, hkX, -, -, X₁, st1⟩ := Y.newCold hexec (own := own) (C := cls) (index := ik) (n := 6) hown' hk' hins hini'
    (g := F0 m pc ls rest) rfl (by rw [hb]; exact d0) (Nat.le_refl _) (Nat.le_refl _)
  generalize hT1 : (T.setVm vm₁).pushCell { cls := cX, slots := kX.instanceTypes.map defaultValue, vm := .none } = T1 at X₁ st1
  have hcat : (Value.ref T.heap.size).category = 1 := rfl
  have hcellA : T1.heap[T.heap.size]? = some (freshCell cX kX) := by rw [← hT1]; exact State.heap_pushCell_size _ _
  have d3' : decode c.code (pc + 3) = .ok (.dup, 1) := by rw [hb]; exact d3
  obtain ⟨U, hsteps, hrun, hend, hW, hsame, ce, hce, hO⟩ := X₁.ctorThrow0 hexec htr (own := own) (cls := cls) (names := names) (ic := ic) hown' hcls hnames h (fun x hx => nomatch hx) hfX hkX hcellA (by rw [hhp, hT]; exact Nat.le_refl _)
    (g := { method := m, pc := pc + 4, locals := ls, stack := .ref T.heap.size :: .ref T.heap.size :: rest, locked := none }) rfl hsize rfl rfl (rest := rest) rfl
    (by rw [hb]; exact d4) (by rw [hb]; exact d7) hout hRframes (by simp only [List.map_cons, List.sum_cons, hcat]; omega) hlocks
  obtain ⟨f1, f2⟩ := vx_frame hsame
  rw [hhp] at f1 f2
  have hWs : s.WarmedH U.vm := State.WarmedH.trans hW0 hW
  have hcl : s.vm.findClass cls = some ce.cls := by
    have h9 := hO.cls
    rw [hvm] at h9
    exact h9
  have hall : s.sameButNew ({ U with vm := s.vm } : State) locs mc ms := by
    subst hA
    obtain ⟨e1, e2⟩ := hsame
    rw [State.setFrames_setFrames] at e1
    have h2 : (T.setVm s.vm).sameButNew ({ U with vm := s.vm } : State) [] (0 + 1) (0 + 6) := ⟨e1, e2⟩
    have h3 := X.same.trans h2
    rw [List.append_nil] at h3
    exact h3.mono hc hs
  refine ⟨U, ?_, .threw T.heap.size, hrun, hend, Or.inr ⟨T.heap.size, rfl, cls, ce, locs, hx U hWs.alike f1 (fun q hq => f2 q hq (fun z hz => nomatch hz)), hce, hO.vm, hcl, hWs, hall, hf⟩⟩
  refine st1 _ ?_
  show Steps p.tables e below (T1.setTop { method := m, pc := pc + 3, locals := ls, stack := .ref T.heap.size :: rest, locked := none }) _
  jvm_step X₁.here [X₁.here.top, hexec, d3', Value.category]
  exact hsteps
/-- 'throw new E("text")': new; dup; ldc; invokespecial; athrow -/
theorem vx_throwS {cc : ByteArray} {pc : Nat} (hexec : p.tables.exec = Jvm.exec) (hb : c.code = cc) (hl : l.stackTraces = false) {own cls text : String} {names : List String} {ik is ic mc ms sa : Nat} {A : Nat → Prop}
    (hown : s.vm.findClass own = some m.cls) (hcls : Bundle.fit cls = true) (hnames : ∀ n ∈ names, Bundle.fit n = true)
    (hk : (Cond.classLink own ik cls).before args s = true) (hini : (Cond.initialized cls).before args s = true) (hstr : vk_R own is text sa s) (hat : ∀ w ∈ vx_atS own ic cls names, w.before args s = true)
    (hgood : ∀ w ∈ Cond.classLink own ik cls :: Cond.initialized cls :: vx_atS own ic cls names, vx_ot w = true)
    (hU : vx_Zq Bundle.tN "UNASSIGNED_STACK" Bundle.steD A s s.heap) (hN : vx_Zq Bundle.tN "SUPPRESSED_SENTINEL" Bundle.listD A s s.heap) (hS : va_S A s.heap H locs) (hsize : ls.size = c.maxLocals)
    (d0 : decode cc pc = .ok (.new ik, 3)) (d3 : decode cc (pc + 3) = .ok (.dup, 1)) (d4 : decode cc (pc + 4) = .ok (.ldc is, 2)) (d6 : decode cc (pc + 6) = .ok (.invokespecial ic, 3)) (d9 : decode cc (pc + 9) = .ok (.athrow, 1))
    (hout : ∀ x ∈ c.exceptionTable.toList, covers x (pc + 9) = false)
    (hRframes : names.length + 3 < R.frames) (hRlocals : (rest.map fun v => v.category).sum + (13 * (names.length + 1) + 43) ≤ R.locals) (hRcells : cells + 1 ≤ R.cells) (hRslots : slots + 6 ≤ R.slots) (hlocks : meth.locks = false)
    (hx : ∀ t : State, s.vm.Alike t.vm → H.size ≤ t.heap.size → (∀ q : Nat, q < H.size → t.heap[q]? = H[q]?) → XC cls s t)
    (hf : ∀ z ∈ locs, free z.base) (hc : cells + 1 ≤ mc) (hs : slots + 6 ≤ ms) :
    W p l e R s m args below meth c H locs cells slots (vx_MQ below Qc XC args s mc ms free) (F0 m pc ls rest) := by
  intro T hT X
  have htr : e.platform.stackTraces = false := (show e.platform.stackTraces = l.stackTraces by rw [X.admits.platform]).trans hl
  have Y := vx_rebase X (R' := { frames := R.frames, locals := R.locals, cells := 1, slots := 6 }) (Nat.le_refl _) (Nat.le_refl _) hRcells hRslots
  obtain ⟨s', hA⟩ : ∃ z, z = (T.setVm s.vm).setFrames (.invoking m args :: below) := ⟨_, rfl⟩
  rw [← hA] at Y
  have hvm : s'.vm = s.vm := by rw [hA]; rfl
  have hhp : s'.heap = H := by rw [hA]; exact hT
  have hW0 : s.WarmedH s'.vm := by rw [hvm]; exact State.WarmedH.refl s
  have hat' : ∀ w ∈ vx_atS own ic cls names, w.before args s' = true := fun w hw => vx_ot_at hW0 hvm.symm (hgood w (List.mem_cons_of_mem _ (List.mem_cons_of_mem _ hw))) (hat w hw)
  have hk' : (Cond.classLink own ik cls).before args s' = true := vx_ot_at hW0 hvm.symm (hgood _ List.mem_cons_self) hk
  have hini' : (Cond.initialized cls).before args s' = true := vx_ot_at hW0 hvm.symm (hgood _ (List.mem_cons_of_mem _ List.mem_cons_self)) hini
  have hU' : vx_Zq Bundle.tN "UNASSIGNED_STACK" Bundle.steD A s' s'.heap := by rw [hhp]; exact vx_Zq.moved hW0.alike (hU.kept hS.2.1)
  have hN' : vx_Zq Bundle.tN "SUPPRESSED_SENTINEL" Bundle.listD A s' s'.heap := by rw [hhp]; exact vx_Zq.moved hW0.alike (hN.kept hS.2.1)
  have h : ∀ w ∈ Bundle.ownAtoms own ic cls names, w.before args s' = true := vx_own hat' (vx_isRefq hU'.1) (vx_isRefq hN'.1) hU'.2.word hN'.2.word
  have hown' : s'.vm.findClass own = some m.cls := by rw [hvm]; exact hown
  have hins : (Cond.instantiable cls 6).before args s' = true := h _ (by simp [Bundle.ownAtoms])
  obtain ⟨vm₁, cX, kX, hfX, hkX, -, -, X₁, st1⟩ := Y.newCold hexec (own := own) (C := cls) (index := ik) (n := 6) hown' hk' hins hini'
    (g := F0 m pc ls rest) rfl (by rw [hb]; exact d0) (Nat.le_refl _) (Nat.le_refl _)
  generalize hT1 : (T.setVm vm₁).pushCell { cls := cX, slots := kX.instanceTypes.map defaultValue, vm := .none } = T1 at X₁ st1
  have hcat : (Value.ref T.heap.size).category = 1 := rfl
  have hcellA : T1.heap[T.heap.size]? = some (freshCell cX kX) := by rw [← hT1]; exact State.heap_pushCell_size _ _
  have d3' : decode c.code (pc + 3) = .ok (.dup, 1) := by rw [hb]; exact d3
  have d4' : decode c.code (pc + 4) = .ok (.ldc is, 2) := by rw [hb]; exact d4
  have hstr' : vk_R own is text sa s' := vk_R.warm hW0 hstr
  obtain ⟨U, hsteps, hrun, hend, hW, hsame, ce, hce, hO⟩ := X₁.ctorThrowS hexec htr (own := own) (cls := cls) (names := names) (ic := ic) hown' hcls hnames h (fun x hx => nomatch hx) hfX hkX hcellA (by rw [hhp, hT]; exact Nat.le_refl _) (msg := .ref sa) rfl
    (g := { method := m, pc := pc + 6, locals := ls, stack := .ref sa :: .ref T.heap.size :: .ref T.heap.size :: rest, locked := none }) rfl hsize rfl rfl (rest := rest) rfl
    (by rw [hb]; exact d6) (by rw [hb]; exact d9) hout hRframes (by simp only [List.map_cons, List.sum_cons, hcat]; omega) hlocks
  obtain ⟨f1, f2⟩ := vx_frame hsame
  rw [hhp] at f1 f2
  have hWs : s.WarmedH U.vm := State.WarmedH.trans hW0 hW
  have hcl : s.vm.findClass cls = some ce.cls := by
    have h9 := hO.cls
    rw [hvm] at h9
    exact h9
  have hall : s.sameButNew ({ U with vm := s.vm } : State) locs mc ms := by
    subst hA
    obtain ⟨e1, e2⟩ := hsame
    rw [State.setFrames_setFrames] at e1
    have h2 : (T.setVm s.vm).sameButNew ({ U with vm := s.vm } : State) [] (0 + 1) (0 + 6) := ⟨e1, e2⟩
    have h3 := X.same.trans h2
    rw [List.append_nil] at h3
    exact h3.mono hc hs
  refine ⟨U, ?_, .threw T.heap.size, hrun, hend, Or.inr ⟨T.heap.size, rfl, cls, ce, locs, hx U hWs.alike f1 (fun q hq => f2 q hq (fun z hz => nomatch hz)), hce, hO.vm, hcl, hWs, hall, hf⟩⟩
  refine st1 _ ?_
  show Steps p.tables e below (T1.setTop { method := m, pc := pc + 3, locals := ls, stack := .ref T.heap.size :: rest, locked := none }) _
  jvm_step X₁.here [X₁.here.top, hexec, d3', Value.category]
  exact X₁.ldcString hexec (own := own) (text := text) (index := is) (a := sa) hown' hstr'.1 hstr'.2
    (g := { method := m, pc := pc + 4, locals := ls, stack := .ref T.heap.size :: .ref T.heap.size :: rest, locked := none }) rfl d4' _ hsteps
/-- 'throw new E("text")', the text by a wide index -/
theorem vx_throwSW {cc : ByteArray} {pc : Nat} (hexec : p.tables.exec = Jvm.exec) (hb : c.code = cc) (hl : l.stackTraces = false) {own cls text : String} {names : List String} {ik is ic mc ms sa : Nat} {A : Nat → Prop}
    (hown : s.vm.findClass own = some m.cls) (hcls : Bundle.fit cls = true) (hnames : ∀ n ∈ names, Bundle.fit n = true)
    (hk : (Cond.classLink own ik cls).before args s = true) (hini : (Cond.initialized cls).before args s = true) (hstr : vk_R own is text sa s) (hat : ∀ w ∈ vx_atS own ic cls names, w.before args s = true)
    (hgood : ∀ w ∈ Cond.classLink own ik cls :: Cond.initialized cls :: vx_atS own ic cls names, vx_ot w = true)
    (hU : vx_Zq Bundle.tN "UNASSIGNED_STACK" Bundle.steD A s s.heap) (hN : vx_Zq Bundle.tN "SUPPRESSED_SENTINEL" Bundle.listD A s s.heap) (hS : va_S A s.heap H locs) (hsize : ls.size = c.maxLocals)
    (d0 : decode cc pc = .ok (.new ik, 3)) (d3 : decode cc (pc + 3) = .ok (.dup, 1)) (d4 : decode cc (pc + 4) = .ok (.ldc_w is, 3)) (d7 : decode cc (pc + 7) = .ok (.invokespecial ic, 3)) (d10 : decode cc (pc + 10) = .ok (.athrow, 1))
    (hout : ∀ x ∈ c.exceptionTable.toList, covers x (pc + 10) = false)
    (hRframes : names.length + 3 < R.frames) (hRlocals : (rest.map fun v => v.category).sum + (13 * (names.length + 1) + 43) ≤ R.locals) (hRcells : cells + 1 ≤ R.cells) (hRslots : slots + 6 ≤ R.slots) (hlocks : meth.locks = false)
    (hx : ∀ t : State, s.vm.Alike t.vm → H.size ≤ t.heap.size → (∀ q : Nat, q < H.size → t.heap[q]? = H[q]?) → XC cls s t)
    (hf : ∀ z ∈ locs, free z.base) (hc : cells + 1 ≤ mc) (hs : slots + 6 ≤ ms) :
    W p l e R s m args below meth c H locs cells slots (vx_MQ below Qc XC args s mc ms free) (F0 m pc ls rest) := by
  intro T hT X
  have htr : e.platform.stackTraces = false := (show e.platform.stackTraces = l.stackTraces by rw [X.admits.platform]).trans hl
  have Y := vx_rebase X (R' := { frames := R.frames, locals := R.locals, cells := 1, slots := 6 }) (Nat.le_refl _) (Nat.le_refl _) hRcells hRslots
  obtain ⟨s', hA⟩ : ∃ z, z = (T.setVm s.vm).setFrames (.invoking m args :: below) := ⟨_, rfl⟩
  rw [← hA] at Y
  have hvm : s'.vm = s.vm := by rw [hA]; rfl
  have hhp : s'.heap = H := by rw [hA]; exact hT
  have hW0 : s.WarmedH s'.vm := by rw [hvm]; exact State.WarmedH.refl s
  have hat' : ∀ w ∈ vx_atS own ic cls names, w.before args s' = true := fun w hw => vx_ot_at hW0 hvm.symm (hgood w (List.mem_cons_of_mem _ (List.mem_cons_of_mem _ hw))) (hat w hw)
  have hk' : (Cond.classLink own ik cls).before args s' = true := vx_ot_at hW0 hvm.symm (hgood _ List.mem_cons_self) hk
  have hini' : (Cond.initialized cls).before args s' = true := vx_ot_at hW0 hvm.symm (hgood _ (List.mem_cons_of_mem _ List.mem_cons_self)) hini
  have hU' : vx_Zq Bundle.tN "UNASSIGNED_STACK" Bundle.steD A s' s'.heap := by rw [hhp]; exact vx_Zq.moved hW0.alike (hU.kept hS.2.1)
  have hN' : vx_Zq Bundle.tN "SUPPRESSED_SENTINEL" Bundle.listD A s' s'.heap := by rw [hhp]; exact vx_Zq.moved hW0.alike (hN.kept hS.2.1)
  have h : ∀ w ∈ Bundle.ownAtoms own ic cls names, w.before args s' = true := vx_own hat' (vx_isRefq hU'.1) (vx_isRefq hN'.1) hU'.2.word hN'.2.word
  have hown' : s'.vm.findClass own = some m.cls := by rw [hvm]; exact hown
  have hins : (Cond.instantiable cls 6).before args s' = true := h _ (by simp [Bundle.ownAtoms])
  obtain ⟨vm₁, cX, kX, hfX, hkX, -, -, X₁, st1⟩ := Y.newCold hexec (own := own) (C := cls) (index := ik) (n := 6) hown' hk' hins hini'
    (g := F0 m pc ls rest) rfl (by rw [hb]; exact d0) (Nat.le_refl _) (Nat.le_refl _)
  generalize hT1 : (T.setVm vm₁).pushCell { cls := cX, slots := kX.instanceTypes.map defaultValue, vm := .none } = T1 at X₁ st1
  have hcat : (Value.ref T.heap.size).category = 1 := rfl
  have hcellA : T1.heap[T.heap.size]? = some (freshCell cX kX) := by rw [← hT1]; exact State.heap_pushCell_size _ _
  have d3' : decode c.code (pc + 3) = .ok (.dup, 1) := by rw [hb]; exact d3
  have d4' : decode c.code (pc + 4) = .ok (.ldc_w is, 3) := by rw [hb]; exact d4
  have hstr' : vk_R own is text sa s' := vk_R.warm hW0 hstr
  obtain ⟨U, hsteps, hrun, hend, hW, hsame, ce, hce, hO⟩ := X₁.ctorThrowS hexec htr (own := own) (cls := cls) (names := names) (ic := ic) hown' hcls hnames h (fun x hx => nomatch hx) hfX hkX hcellA (by rw [hhp, hT]; exact Nat.le_refl _) (msg := .ref sa) rfl
    (g := { method := m, pc := pc + 7, locals := ls, stack := .ref sa :: .ref T.heap.size :: .ref T.heap.size :: rest, locked := none }) rfl hsize rfl rfl (rest := rest) rfl
    (by rw [hb]; exact d7) (by rw [hb]; exact d10) hout hRframes (by simp only [List.map_cons, List.sum_cons, hcat]; omega) hlocks
  obtain ⟨f1, f2⟩ := vx_frame hsame
  rw [hhp] at f1 f2
  have hWs : s.WarmedH U.vm := State.WarmedH.trans hW0 hW
  have hcl : s.vm.findClass cls = some ce.cls := by
    have h9 := hO.cls
    rw [hvm] at h9
    exact h9
  have hall : s.sameButNew ({ U with vm := s.vm } : State) locs mc ms := by
    subst hA
    obtain ⟨e1, e2⟩ := hsame
    rw [State.setFrames_setFrames] at e1
    have h2 : (T.setVm s.vm).sameButNew ({ U with vm := s.vm } : State) [] (0 + 1) (0 + 6) := ⟨e1, e2⟩
    have h3 := X.same.trans h2
    rw [List.append_nil] at h3
    exact h3.mono hc hs
  refine ⟨U, ?_, .threw T.heap.size, hrun, hend, Or.inr ⟨T.heap.size, rfl, cls, ce, locs, hx U hWs.alike f1 (fun q hq => f2 q hq (fun z hz => nomatch hz)), hce, hO.vm, hcl, hWs, hall, hf⟩⟩
  refine st1 _ ?_
  show Steps p.tables e below (T1.setTop { method := m, pc := pc + 3, locals := ls, stack := .ref T.heap.size :: rest, locked := none }) _
  jvm_step X₁.here [X₁.here.top, hexec, d3', Value.category]
  exact X₁.ldcStringW hexec (own := own) (text := text) (index := is) (a := sa) hown' hstr'.1 hstr'.2
    (g := { method := m, pc := pc + 4, locals := ls, stack := .ref T.heap.size :: .ref T.heap.size :: rest, locked := none }) rfl d4' _ hsteps
end Ends
section Bodies
variable {l : Launch}
theorem vx_ofW {y : MethodName} {ws ws' : List Cond} {rm : Room} {Pc : Array Value → State → Prop} {Qc : Array Value → State → Outcome → State → Prop} {XC : String → State → State → Prop} {mc ms : Nat} {free : Addr → Prop} {cc : ByteArray} {maxL : Nat} {ret : Option FieldType}
    (hy : plainName y.cls = true) (hw : ws = Cond.code y cc maxL ret :: ws')
    (body : ∀ p e s m args below meth c s₁, BodyLoose p l y (headSpec ws rm) cc maxL ret e s m args below meth c s₁ → c.maxLocals = maxL → (∀ x ∈ c.exceptionTable.toList, False) → Pc args s →
      W p l e (headSpec ws rm).room s m args below meth c s.heap [] 0 0 (vx_MQ below Qc XC args s mc ms free) (entryFrame m args maxL)) : vx_Met l y ws rm Pc Qc XC mc ms free := by
  refine MetFree.of_bodyS (code := cc) (maxLocals := maxL) (ret := ret) hy ?_ ?_
  · intro args s m h hn
    obtain ⟨meth, c, h1, h2, h3, h4, h5, h6, -, -⟩ := Cond.code_spec hn (atoms_spec (ws := ws) h _ (by rw [hw]; exact List.mem_cons_self))
    exact ⟨meth, c, h1, h2, h3, h4, h5, h6⟩
  · intro p e s m args below meth c s₁ B hml hP _
    have hh0 : s₁.heap = s.heap := by rw [B.state]; rfl
    have ht : ∀ x ∈ c.exceptionTable.toList, False := by
      obtain ⟨meth9, c9, h1, h2, -, -, -, -, h7, -⟩ := Cond.code_spec B.named (atoms_spec (ws := ws) B.pre _ (by rw [hw]; exact List.mem_cons_self))
      cases Option.some.inj (h1.symm.trans B.method)
      cases Option.some.inj (h2.symm.trans (Stand.of_body B).code)
      intro x hx
      rw [Array.isEmpty_iff.mp h7] at hx
      cases hx
    obtain ⟨t, a1, o, b1, b2, b3⟩ := body p e s m args below meth c s₁ B hml ht hP s₁ hh0 (Stand.of_body B)
    exact ⟨t, o, a1, b1, b2, b3⟩
/-- the table of a body with handlers -/
theorem vx_table {p : Program} {x y : MethodName} {S : Spec} {cc bytes : ByteArray} {maxL maxL' : Nat} {ret ret' : Option FieldType} {e : Env} {s s₁ : State} {m : MethodId} {args : Array Value} {below : List Frame} {meth : Method} {c : Code} {hh : List (Nat × Nat × Nat × Nat)}
    (B : BodyLoose p l y S cc maxL ret e s m args below meth c s₁) (h : (Cond.codeWith y bytes maxL' ret' hh).before args s = true) : c.exceptionTable.toList = tableOf hh := by
  obtain ⟨m9, meth9, c9, hn9, h1, h2, -, -, h6, -⟩ := Cond.codeWith_spec h
  cases Option.some.inj (hn9.symm.trans B.named)
  cases Option.some.inj (h1.symm.trans B.method)
  cases Option.some.inj (h2.symm.trans (Stand.of_body B).code)
  rw [← h6, table_eq]
end Bodies
end VXA
/-! ===== END ===== -/
/-! ===== BEGIN a static call of a method with an exception table ===== -/
section VXS
variable {p : Program} {l : Launch} {e : Env} {R : Room} {s : State} {m : MethodId} {args : Array Value} {below : List Frame} {meth : Method} {c : Code} {T : State} {H : Heap} {locs : List Loc} {cells slots : Nat}
abbrev vx_CSW (R : Room) (s : State) (args : Array Value) (own : String) (index : Nat) (y : MethodName) (bytes : ByteArray) (maxL : Nat) (ret : Option FieldType) (hh : List (Nat × Nat × Nat × Nat)) (ws : List Cond) (rm : Room) (mc ms n : Nat) : Prop :=
  (rm.cells = mc ∧ rm.slots = ms ∧ rm.frames + 1 ≤ R.frames ∧ 8 + (maxL + 11) + rm.locals ≤ R.locals ∧ (∀ w ∈ ws, ∀ (a' : Array Value) (U : State), s.WarmedH U.vm → w.before a' U = true) ∧ Cond.codeWith y bytes maxL ret hh ∈ ws) ∧
  (Cond.codeWith y bytes maxL ret hh).before args s = true ∧ (Cond.initialized y.cls).before args s = true ∧ (y.cls ≠ "java/lang/invoke/MethodHandle" ∧ y.cls ≠ "java/lang/invoke/VarHandle") ∧
  (∀ sig, parseMethodDescriptor y.desc = some sig → n = sig.parameters.length) ∧ (Cond.methodLink own index y).before args s = true ∧ (Cond.static y).before args s = true
theorem vx_cwSW {own : String} {index maxL mc ms : Nat} {y : MethodName} {bytes : ByteArray} {ret : Option FieldType} {hh : List (Nat × Nat × Nat × Nat)} {Ts ws ws' : List Cond} {rm : Room} (n : Nat) (ht : ∀ w ∈ Ts, w.before args s = true) (hT : GoodIn Ts (va_wsS own index y ws)) (hw : ws = Cond.codeWith y bytes maxL ret hh :: ws') (hrc : rm.cells = mc) (hrs : rm.slots = ms)
    (hd : y.cls ≠ "java/lang/invoke/MethodHandle" ∧ y.cls ≠ "java/lang/invoke/VarHandle" ∧ (parseMethodDescriptor y.desc).map (fun d => d.parameters.length) = some n) (hR : rm.frames + 1 ≤ R.frames ∧ 8 + (maxL + 11) + rm.locals ≤ R.locals) :
    vx_CSW R s args own index y bytes maxL ret hh ws rm mc ms n := by
  have ok : ∀ w ∈ va_wsS own index y ws, w.before args s = true := fun w h => ht w (hT w h).1
  have hG : GoodIn Ts ws := fun w h => hT w (by unfold va_wsS; exact List.mem_append_right _ h)
  have hc : Cond.codeWith y bytes maxL ret hh ∈ ws := by rw [hw]; exact List.mem_cons_self
  refine ⟨⟨hrc, hrs, hR.1, hR.2, pay_in ht hG, hc⟩, ht _ (hG _ hc).1, ok _ (by simp [va_wsS]), ⟨hd.1, hd.2.1⟩, fun sig h => ?_, ok _ (by simp [va_wsS]), ok _ (by simp [va_wsS])⟩
  have h2 := hd.2.2
  rw [h] at h2
  exact (Option.some.inj h2).symm
theorem vx_callSW (X : Stand p l e R s m args below meth c T locs cells slots) (hexec : p.tables.exec = Jvm.exec) {own : String} {index : Nat} {y : MethodName} {bytes : ByteArray} {maxL : Nat} {ret : Option FieldType} {hh : List (Nat × Nat × Nat × Nat)}
    (hown : s.vm.findClass own = some m.cls) (hlink : (Cond.methodLink own index y).before args s = true) (hstat : (Cond.static y).before args s = true) (hinit : (Cond.initialized y.cls).before args s = true)
    (hcode : (Cond.codeWith y bytes maxL ret hh).before args s = true) (hy : y.cls ≠ "java/lang/invoke/MethodHandle" ∧ y.cls ≠ "java/lang/invoke/VarHandle")
    {W9 : Nat} {Pre : Pt → Array Value → Prop} {Post : Pt → Array Value → Option Value → Pt → Prop} (hK : Back l R p e below s args y 3 W9 Pre Post)
    {g : JFrame} (hg : g.method = m) (hsize : g.locals.size = c.maxLocals) {argsL rest : List Value} (hlen : ∀ sig, parseMethodDescriptor y.desc = some sig → argsL.length = sig.parameters.length)
    (hstack : g.stack = argsL.reverse ++ rest) (hW : 2 * g.monitorRoom + (rest.map fun v => v.category).sum ≤ W9) (hdg : decode c.code g.pc = .ok (.invokestatic index, 3))
    (hpre : ∀ vm₁, s.WarmedH vm₁ → Pre ⟨T.setVm vm₁, locs, cells, slots⟩ argsL.toArray) :
    ∃ (v : Option Value) (vm₁ : Vm) (B : Pt), s.WarmedH vm₁ ∧ Stand p l e R s m args below meth c B.U B.locs B.cells B.slots ∧ Post ⟨T.setVm vm₁, locs, cells, slots⟩ argsL.toArray v B ∧
      ∀ target, Steps p.tables e below (B.U.setTop { g with pc := g.pc + 3, stack := v.toList ++ rest }) target → Steps p.tables e below (T.setTop g) target := by
  obtain ⟨mk, methM, cM, hnamed, hmethM, -, -, -, -, -, -, hsigM⟩ := Cond.codeWith_spec hcode
  have hstatic : methM.isStatic = true := Cond.static_spec hnamed hmethM hstat
  obtain ⟨kP, hkP, -⟩ := className_of_methodNamed hnamed
  have hinitP : kP.init = .initialized := Cond.initialized_spec (findClass_of_methodNamed hnamed) hkP hinit
  obtain ⟨vm₁, X₁, hstep₁⟩ := X.invokestatic hexec hown hlink hnamed hmethM hstatic hkP hinitP hy (g := g) hg (argsL := argsL) (rest := rest) (hlen _ hsigM) hstack hdg
  obtain ⟨v, B, X', hpost, hsteps⟩ := hK m meth c ⟨T.setVm vm₁, locs, cells, slots⟩ { g with stack := rest } (.invokestatic index) mk argsL.toArray X₁ hg hsize hdg hW (X₁.named hnamed) (hpre vm₁ X₁.warmed)
  exact ⟨v, vm₁, B, X₁.warmed, X', hpost, fun target h => hstep₁ _ fun acts => by rw [doInvoke_state]; exact hsteps.trans h⟩
theorem vx_runSW {y : MethodName} {bytes cc : ByteArray} {maxL nL mc ms n index : Nat} {ret : Option FieldType} {hh : List (Nat × Nat × Nat × Nat)} {ws : List Cond} {rm : Room} {Pc : Array Value → State → Prop} {Qc : Array Value → State → Outcome → State → Prop} {free : Addr → Prop} {Ts : List Cond} {own : String} {As rest : List Value} {g : JFrame}
    (S : CallFix p m c cc nL s args Ts own) (hM : Met l y ws rm Pc Qc mc ms free) (cw : vx_CSW R s args own index y bytes maxL ret hh ws rm mc ms n) (hp : PreS s H Pc As)
    (hg : g.method = m) (hn : As.length = n) (hsize : g.locals.size = nL) (hstack : g.stack = As.reverse ++ rest) (hW : 2 * g.monitorRoom + (rest.map fun v => v.category).sum ≤ 8) (hdg : decode cc g.pc = .ok (.invokestatic index, 3)) (hf : cells + mc ≤ R.cells ∧ slots + ms ≤ R.slots) :
    va_Run p l e R s m args below meth c H locs cells slots mc ms g rest (Qc As.toArray) (free) := by
  obtain ⟨⟨hrc, hrs, hfr, hlo, hws, hcw⟩, hcode, hini, hy, hlen, hl, hstt⟩ := cw
  have hK : Back l R p e below s args y 3 8 (PreOf R mc ms Pc) (PostOf Qc mc ms free) := va_backW (hh := hh) (bytes := bytes) (maxL := maxL) (ret := ret) hM hp.1 hrc hrs hfr hlo hws hcw (fun a' U hW => word_at hW (Or.inl (by first | rfl | simp [Cond.onTables, Cond.keeps, Cond.steady])) hini)
  obtain ⟨hx, hb, hml, ho, -⟩ := S
  intro T hT X
  obtain ⟨v, vm₁, ⟨U', l2, c2, s2⟩, hW₁, X', ⟨g', mk, t, L, e1, e2, hq, h1, hL, h2, h3⟩, st⟩ := vx_callSW X hx (hh := hh) (bytes := bytes) (maxL := maxL) (ret := ret) ho hl hstt hini hcode hy hK hg (hsize.trans hml.symm) (argsL := As) (rest := rest) (fun sig h => hn.trans (hlen sig h)) hstack hW (by rw [hb]; exact hdg)
    (fun vm₁ hW₁ => ⟨hf.1, hf.2, hp.2 (T.setVm vm₁) hT hW₁⟩)
  dsimp only [Pt.U, Pt.locs, Pt.cells, Pt.slots] at X' e1 e2 h1 h2 h3 st
  subst h1; subst h2; subst h3
  exact ⟨v, (T.setVm vm₁).calling g' mk As.toArray, t, U', L, hT, X', hL, e1, e2, hq, st⟩
/-- not caught here, past rows that name other classes: it goes on to the caller -/
theorem vx_outP {p : Program} {l : Launch} {e : Env} {R : Room} {s : State} {m : MethodId} {args : Array Value} {below : List Frame} {meth : Method} {c : Code} {H : Heap} {locs : List Loc} {cells slots : Nat} {free : Addr → Prop} {ls : Array Slot} {rest : List Value} {Qc : Array Value → State → Outcome → State → Prop} {XC : String → State → State → Prop}
    {pc : Nat} {own E : String} {ce : Cell} {q : Addr} {mc ms : Nat} (hown : s.vm.findClass own = some m.cls) (hlocks : meth.locks = false)
    (hpass : ∀ z ∈ c.exceptionTable.toList, covers z pc = false ∨ (z.catchType ≠ 0 ∧ ∃ nm : String, (Cond.classLink own z.catchType nm).before args s = true ∧ va_Nc E nm s)) (hcell : H[q]? = some ce) (hv : ce.vm = .none) (hcl : s.vm.findClass E = some ce.cls)
    (hx : ∀ t : State, t.heap = H → s.vm.Alike t.vm → XC E s t) (hf : ∀ z ∈ locs, free z.base) (hc : cells ≤ mc) (hs : slots ≤ ms) :
    vx_W p l e R s m args below meth c H locs cells slots (vx_MQ below Qc XC args s mc ms free) (F0 m pc ls rest) q := by
  intro T hT X
  have hpl : e.platform.magicAccessors = ({} : Platform).magicAccessors := by rw [X.admits.platform]
  obtain ⟨vm', hW', X', st⟩ := X.outThrough hlocks q (g := F0 m pc ls rest) rfl rfl rfl (cell := ce) (by rw [hT]; exact hcell) (by rw [hv]; rfl)
    (by obtain ⟨k9, h9, -⟩ := Vm.findClass_spec hcl; exact ⟨k9, h9⟩) (fun z hz => by
      rcases hpass z hz with h | ⟨hz0, nm, hl1, hn1⟩
      · exact Or.inl h
      · obtain ⟨c6, hc6, hcl6⟩ := Cond.classLink_spec hown hl1 e.platform hpl
        obtain ⟨a8, b8, h1, h2, h3⟩ := hn1
        cases Option.some.inj (h1.symm.trans hcl)
        cases Option.some.inj (h2.symm.trans hc6)
        exact Or.inr ⟨hz0, _, hcl6, h3⟩)
  obtain ⟨g₀, hfr⟩ := X'.frames_eq
  have hcell9 : ((T.setVm vm').setFrames (.throwing q :: below)).heap[q]? = some ce := by
    show T.heap[q]? = some ce
    rw [hT]; exact hcell
  have hend : Ended ((T.setVm vm').setFrames (.throwing q :: below)) below (.threw q) := State.frames_setFrames _ (State.cur_lt_of_frames hfr)
  refine ⟨(T.setVm vm').setFrames (.throwing q :: below), ?_, .threw q, X'.here.running, hend, Or.inr ⟨q, rfl, E, ce, locs, hx _ hT (X'.ends _).1.alike, hcell9, hv, hcl, (X'.ends _).1, (X'.ends _).2.mono hc hs, hf⟩⟩
  rw [X.pushThrowing_eq]
  exact st
/-- a thing of a world lies in the heap -/
theorem vx_lt {D : va_G} {cl : List vw_C} {ws : va_W} {H1 : Heap} (h : va_P D cl ws H1) {k : Nat} {q : Nat × va_E} (hk : ws[k]? = some q) : q.1 < H1.size := (h k q hk).lt
end VXS
/-! ===== END ===== -/
/-! ===== BEGIN methods with a table of their own: called by a name, returning or throwing ===== -/
section VXH
/-! vx_backW, vx_callVX, vx_callSX, vx_callVW, vx_runVW, vx_runVX, vx_runSX, vx_ofWH follow the same proofs as their sisters above (Free/Laws.lean, Shelf42/LK1.lean); vx_outP calls Shelf42/NT130.lean (outThrough). -/
section
variable {l : Launch} {R : Room} {p : Program} {e : Env} {below : List Frame} {s : State} {sargs : Array Value} {y : MethodName} {len W9 : Nat}
theorem vx_backW {ws : List Cond} {rm : Room} {Pc : Array Value → State → Prop} {Qc : Array Value → State → Outcome → State → Prop} {XC : String → State → State → Prop} {mc ms : Nat} {free : Addr → Prop} {bytes : ByteArray} {maxL : Nat} {ret : Option FieldType} {hh : List (Nat × Nat × Nat × Nat)}
    (hM : vx_Met l y ws rm Pc Qc XC mc ms free) (hblind : FrameBlind Pc) (hrc : rm.cells = mc) (hrs : rm.slots = ms)
    (hframes : rm.frames + 1 ≤ R.frames) (hlocals : W9 + (maxL + 11) + rm.locals ≤ R.locals)
    (hws : ∀ w ∈ ws, ∀ a' U, s.WarmedH U.vm → w.before a' U = true) (hcode : Cond.codeWith y bytes maxL ret hh ∈ ws) (hinit : ∀ a' U, s.WarmedH U.vm → (Cond.initialized y.cls).before a' U = true) :
    vx_Back l R p e below s sargs y len W9 (PreOf R mc ms Pc) (PostOf Qc mc ms free) (vx_Post XC mc ms free) := by
  intro m meth c A g ig mk a X hg hsize hdg hW hn hp
  have h1 : (headSpec ws rm).pre.before a A.U = true := atoms_intro fun w hw => hws w hw _ _ X.warmed
  have h2 : (Cond.codeWith y bytes maxL ret hh).before a A.U = true := hws _ hcode _ _ X.warmed
  have h3 : (Cond.initialized y.cls).before a A.U = true := hinit _ _ X.warmed
  have h4 : A.cells + (headSpec ws rm).room.cells ≤ R.cells := by rw [show (headSpec ws rm).room.cells = mc from hrc]; exact hp.1
  have h5 : A.slots + (headSpec ws rm).room.slots ≤ R.slots := by rw [show (headSpec ws rm).room.slots = ms from hrs]; exact hp.2.1
  have hPc : Pc a (A.U.calling g mk a) := hblind _ _ _ _ hp.2.2
  obtain ⟨U, Ls, c0, s0⟩ := A
  dsimp only [Pt.U, Pt.locs, Pt.cells, Pt.slots] at h1 h2 h3 h4 h5 X hn hPc ⊢
  obtain ⟨m9, methY, cY, hn9, hmY, hcY, -, hlY, -⟩ := Cond.codeWith_spec h2
  cases Option.some.inj (hn9.symm.trans hn)
  obtain ⟨kY, hkY, -⟩ := className_of_methodNamed hn
  have hinitY : kY.init = .initialized := Cond.initialized_spec (findClass_of_methodNamed hn) hkY h3
  have h : At U g.method c below := by rw [hg]; exact X.here
  have hlocals9 : W9 + (maxL + 11) + (headSpec ws rm).room.locals ≤ R.locals := hlocals
  have happ : (headSpec ws rm).appliesLoose y e.platform (U.calling g mk a) = true :=
    Spec.appliesLoose_calling (g := g) h hdg hn hkY hinitY
      (X.room_calling (g := g) (R' := (headSpec ws rm).room) hsize hmY hcY hframes (by rw [hlY]; omega) h4 h5) h1
  obtain ⟨mid, hmid⟩ := h.above
  have hfr : (U.setTop g).frames = (.java g :: mid) ++ below := by rw [State.frames_setTop' g h.top, hmid]; rfl
  obtain ⟨o, s₂, hsteps, -, hend, hq⟩ := Steps.callFree hM p X.admits X.cas X.clock (acts := []) hfr happ hPc trivial
  have hq' : vx_Q Qc XC mc ms free a (U.calling g mk a) o s₂ := hq
  rw [State.frames_setTop' g h.top] at hend
  obtain ⟨g₀, hg0⟩ := Option.isSome_iff_exists.mp h.top
  obtain ⟨r, hr⟩ := State.topJava?_eq_some.mp hg0
  have hr' : (({ U with heap := s₂.heap, slotsUsed := s₂.slotsUsed } : State).setVm s₂.vm).frames = .java g₀ :: r := hr
  rcases hq' with ⟨hqc, L, hfe, hL⟩ | ⟨q, rfl, E, ce, L, hx, hce, hcv, hcl, hW₂, hsm, hL⟩
  · obtain ⟨⟨v, rfl⟩, hW₂, e2, q2, q3, q4, q5, q6⟩ := id hfe
    have e3 : s₂ = ({ (U.calling g mk a).setFrames s₂.frames with heap := s₂.heap, slotsUsed := s₂.slotsUsed } : State).setVm s₂.vm := by
      have : s₂ = ({ s₂ with vm := (U.calling g mk a).vm } : State).setVm s₂.vm := rfl
      rw [e2] at this
      exact this
    obtain ⟨c₂, i₂, len₂, hc₂, hd₂, hf₂⟩ := hend
    have hW' : U.WarmedH s₂.vm := hW₂
    have hcc : c₂ = c := by
      have h1 : s₂.code? g.method = U.code? g.method := by
        rw [State.code?_eq, State.code?_eq, hW'.alike.method?]
      exact Option.some.inj (hc₂.symm.trans (h1.trans h.code))
    subst hcc
    have hlen : len₂ = len := by rw [hdg] at hd₂; cases hd₂; rfl
    subst hlen
    have hs₂ : s₂ = (({ U with heap := s₂.heap, slotsUsed := s₂.slotsUsed } : State).setVm s₂.vm).setTop { g with pc := g.pc + len₂, stack := v.toList ++ g.stack } := by
      refine e3.trans ?_
      rw [hf₂, State.calling_eq h.top, State.setFrames_setFrames, State.setTop_of_frames _ hr', hr]
      rfl
    have hsame : U.sameButNew ({ U with heap := s₂.heap, slotsUsed := s₂.slotsUsed } : State) L mc ms := by
      refine ⟨?_, q2, q3, q4, q5, q6⟩
      obtain ⟨t, ht, -⟩ := State.frames_cons hr
      show ({ U with heap := s₂.heap, slotsUsed := s₂.slotsUsed } : State) = { U.setFrames U.frames with heap := s₂.heap, slotsUsed := s₂.slotsUsed }
      rw [State.setFrames_self ht]
    subst hg
    refine Or.inl ⟨v, ⟨(({ U with heap := s₂.heap, slotsUsed := s₂.slotsUsed } : State).setVm s₂.vm), Ls ++ L, c0 + mc, s0 + ms⟩,
      ⟨X.admits, X.cas, X.clock, X.frames, X.room, X.hears, X.method, X.code, (X.here.setHeapUsed s₂.heap s₂.slotsUsed).setVm hW'.alike, X.tail, State.WarmedH.trans X.warmed hW', X.limits, X.bytes, X.same.trans (hsame.setVm s.vm)⟩,
      ⟨g, mk, s₂, L, rfl, rfl, hqc, rfl, hL, rfl, rfl⟩, ?_⟩
    show Steps p.tables e below _ ((({ U with heap := s₂.heap, slotsUsed := s₂.slotsUsed } : State).setVm s₂.vm).setTop { g with pc := g.pc + len₂, stack := v.toList ++ g.stack })
    rw [← hs₂]
    exact hsteps
  · obtain ⟨e2, q2, q3, q4, q5, q6⟩ := id hsm
    have e3 : s₂ = ({ (U.calling g mk a).setFrames s₂.frames with heap := s₂.heap, slotsUsed := s₂.slotsUsed } : State).setVm s₂.vm := by
      have : s₂ = ({ s₂ with vm := (U.calling g mk a).vm } : State).setVm s₂.vm := rfl
      rw [e2] at this
      exact this
    have hf₂ : s₂.frames = .throwing q :: .java g :: U.frames.tail := hend
    have hW' : U.WarmedH s₂.vm := hW₂
    have hs₂ : s₂ = ((({ U with heap := s₂.heap, slotsUsed := s₂.slotsUsed } : State).setVm s₂.vm).setTop g).pushFrame (.throwing q) := by
      refine e3.trans ?_
      rw [hf₂, State.calling_eq h.top, State.setFrames_setFrames, State.pushFrame, State.frames_setTop _ hr', State.setTop_of_frames _ hr', State.setFrames_setFrames, hr]
      rfl
    have hsame : U.sameButNew ({ U with heap := s₂.heap, slotsUsed := s₂.slotsUsed } : State) L mc ms := by
      refine ⟨?_, q2, q3, q4, q5, q6⟩
      obtain ⟨t, ht, -⟩ := State.frames_cons hr
      show ({ U with heap := s₂.heap, slotsUsed := s₂.slotsUsed } : State) = { U.setFrames U.frames with heap := s₂.heap, slotsUsed := s₂.slotsUsed }
      rw [State.setFrames_self ht]
    subst hg
    refine Or.inr ⟨q, ⟨(({ U with heap := s₂.heap, slotsUsed := s₂.slotsUsed } : State).setVm s₂.vm), Ls ++ L, c0 + mc, s0 + ms⟩,
      ⟨X.admits, X.cas, X.clock, X.frames, X.room, X.hears, X.method, X.code, (X.here.setHeapUsed s₂.heap s₂.slotsUsed).setVm hW'.alike, X.tail, State.WarmedH.trans X.warmed hW', X.limits, X.bytes, X.same.trans (hsame.setVm s.vm)⟩,
      ⟨g, mk, s₂, L, E, ce, rfl, rfl, hx, hce, hcv, hcl, rfl, hL, rfl, rfl⟩, ?_⟩
    show Steps p.tables e below _ (((({ U with heap := s₂.heap, slotsUsed := s₂.slotsUsed } : State).setVm s₂.vm).setTop g).pushFrame (.throwing q))
    rw [← hs₂]
    exact hsteps
end
variable {p : Program} {l : Launch} {e : Env} {R : Room} {s : State} {m : MethodId} {args : Array Value} {below : List Frame} {meth : Method} {c : Code} {T : State} {H : Heap} {locs : List Loc} {cells slots : Nat}
theorem vx_callVX (X : Stand p l e R s m args below meth c T locs cells slots) (hexec : p.tables.exec = Jvm.exec) {own C : String} {index : Nat} {y : MethodName} {bytes : ByteArray} {maxL : Nat} {ret : Option FieldType} {hh : List (Nat × Nat × Nat × Nat)}
    (hown : s.vm.findClass own = some m.cls) (hlink : (Cond.methodLink own index y).before args s = true) (hinst : (Cond.instanceMethod y).before args s = true) (hsel : (Cond.selects C y y).before args s = true)
    (hcode : (Cond.codeWith y bytes maxL ret hh).before args s = true) (hy : y.cls ≠ "java/lang/invoke/MethodHandle" ∧ y.cls ≠ "java/lang/invoke/VarHandle")
    {W9 : Nat} {Pre : Pt → Array Value → Prop} {Post : Pt → Array Value → Option Value → Pt → Prop} {PostX : Pt → Array Value → Addr → Pt → Prop} (hK : vx_Back l R p e below s args y 3 W9 Pre Post PostX)
    {b : Addr} {cellB : Cell} (hcell : T.heap[b]? = some cellB) (hobj : cellB.vm.isStatics = false) (hcls : s.vm.findClass C = some cellB.cls)
    {g : JFrame} (hg : g.method = m) (hsize : g.locals.size = c.maxLocals) {argsL rest : List Value} (hlen : ∀ sig, parseMethodDescriptor y.desc = some sig → argsL.length = sig.parameters.length)
    (hstack : g.stack = argsL.reverse ++ .ref b :: rest) (hW : 2 * g.monitorRoom + (rest.map fun v => v.category).sum ≤ W9) (hdg : decode c.code g.pc = .ok (.invokevirtual index, 3))
    (hpre : ∀ vm₁, s.WarmedH vm₁ → Pre ⟨T.setVm vm₁, locs, cells, slots⟩ (Value.ref b :: argsL).toArray) :
    (∃ (v : Option Value) (vm₁ : Vm) (B : Pt), s.WarmedH vm₁ ∧ Stand p l e R s m args below meth c B.U B.locs B.cells B.slots ∧ Post ⟨T.setVm vm₁, locs, cells, slots⟩ (Value.ref b :: argsL).toArray v B ∧
      ∀ target, Steps p.tables e below (B.U.setTop { g with pc := g.pc + 3, stack := v.toList ++ rest }) target → Steps p.tables e below (T.setTop g) target) ∨
    (∃ (q : Addr) (vm₁ : Vm) (B : Pt), s.WarmedH vm₁ ∧ Stand p l e R s m args below meth c B.U B.locs B.cells B.slots ∧ PostX ⟨T.setVm vm₁, locs, cells, slots⟩ (Value.ref b :: argsL).toArray q B ∧
      Steps p.tables e below (T.setTop g) ((B.U.setTop { g with stack := rest }).pushFrame (.throwing q))) := by
  obtain ⟨mk, methM, hnamed, hmethM, hstM, habM⟩ := Cond.instanceMethod_spec hinst
  obtain ⟨m8, methM', cM, hn8, hmethM', -, -, -, -, -, -, hsigM⟩ := Cond.codeWith_spec hcode
  cases Option.some.inj (hn8.symm.trans hnamed)
  cases hmethM.symm.trans hmethM'
  obtain ⟨c2, r2, m2, q1, q2, q3, q4, kP, hkP, hkPi⟩ := Cond.selects_spec hsel
  cases hcls.symm.trans q1
  cases (State.methodFound?_of_named hnamed hy).symm.trans q2
  cases hnamed.symm.trans q3
  have hselP : selectMethod e.platform s.vm cellB.cls mk = .method mk := by rw [Launch.admits_selectMethod X.admits]; exact q4
  obtain ⟨vm₁, X₁, hstep₁⟩ := X.invokevirtual hexec hown hlink hnamed hmethM hstM hkP hkPi hy (a := b) (cell := cellB) hcell
    (fun z h => by rw [h] at hobj; cases hobj) hselP hmethM habM hkP hkPi (g := g) hg (argsL := argsL) (rest := rest) (hlen _ hsigM) hstack hdg
  rcases hK m meth c ⟨T.setVm vm₁, locs, cells, slots⟩ { g with stack := rest } (.invokevirtual index) mk (Value.ref b :: argsL).toArray X₁ hg hsize hdg hW (X₁.named hnamed) (hpre vm₁ X₁.warmed) with ⟨v, B, X', hpost, hsteps⟩ | ⟨q, B, X', hpost, hsteps⟩
  · exact Or.inl ⟨v, vm₁, B, X₁.warmed, X', hpost, fun target h => hstep₁ _ fun acts => by rw [doInvoke_state]; exact hsteps.trans h⟩
  · exact Or.inr ⟨q, vm₁, B, X₁.warmed, X', hpost, hstep₁ _ fun acts => by rw [doInvoke_state]; exact hsteps⟩
theorem vx_callSX (X : Stand p l e R s m args below meth c T locs cells slots) (hexec : p.tables.exec = Jvm.exec) {own : String} {index : Nat} {y : MethodName} {bytes : ByteArray} {maxL : Nat} {ret : Option FieldType} {hh : List (Nat × Nat × Nat × Nat)}
    (hown : s.vm.findClass own = some m.cls) (hlink : (Cond.methodLink own index y).before args s = true) (hstat : (Cond.static y).before args s = true) (hinit : (Cond.initialized y.cls).before args s = true)
    (hcode : (Cond.codeWith y bytes maxL ret hh).before args s = true) (hy : y.cls ≠ "java/lang/invoke/MethodHandle" ∧ y.cls ≠ "java/lang/invoke/VarHandle")
    {W9 : Nat} {Pre : Pt → Array Value → Prop} {Post : Pt → Array Value → Option Value → Pt → Prop} {PostX : Pt → Array Value → Addr → Pt → Prop} (hK : vx_Back l R p e below s args y 3 W9 Pre Post PostX)
    {g : JFrame} (hg : g.method = m) (hsize : g.locals.size = c.maxLocals) {argsL rest : List Value} (hlen : ∀ sig, parseMethodDescriptor y.desc = some sig → argsL.length = sig.parameters.length)
    (hstack : g.stack = argsL.reverse ++ rest) (hW : 2 * g.monitorRoom + (rest.map fun v => v.category).sum ≤ W9) (hdg : decode c.code g.pc = .ok (.invokestatic index, 3))
    (hpre : ∀ vm₁, s.WarmedH vm₁ → Pre ⟨T.setVm vm₁, locs, cells, slots⟩ argsL.toArray) :
    (∃ (v : Option Value) (vm₁ : Vm) (B : Pt), s.WarmedH vm₁ ∧ Stand p l e R s m args below meth c B.U B.locs B.cells B.slots ∧ Post ⟨T.setVm vm₁, locs, cells, slots⟩ argsL.toArray v B ∧
      ∀ target, Steps p.tables e below (B.U.setTop { g with pc := g.pc + 3, stack := v.toList ++ rest }) target → Steps p.tables e below (T.setTop g) target) ∨
    (∃ (q : Addr) (vm₁ : Vm) (B : Pt), s.WarmedH vm₁ ∧ Stand p l e R s m args below meth c B.U B.locs B.cells B.slots ∧ PostX ⟨T.setVm vm₁, locs, cells, slots⟩ argsL.toArray q B ∧
      Steps p.tables e below (T.setTop g) ((B.U.setTop { g with stack := rest }).pushFrame (.throwing q))) := by
  obtain ⟨mk, methM, cM, hnamed, hmethM, -, -, -, -, -, -, hsigM⟩ := Cond.codeWith_spec hcode
  have hstatic : methM.isStatic = true := Cond.static_spec hnamed hmethM hstat
  obtain ⟨kP, hkP, -⟩ := className_of_methodNamed hnamed
  have hinitP : kP.init = .initialized := Cond.initialized_spec (findClass_of_methodNamed hnamed) hkP hinit
  obtain ⟨vm₁, X₁, hstep₁⟩ := X.invokestatic hexec hown hlink hnamed hmethM hstatic hkP hinitP hy (g := g) hg (argsL := argsL) (rest := rest) (hlen _ hsigM) hstack hdg
  rcases hK m meth c ⟨T.setVm vm₁, locs, cells, slots⟩ { g with stack := rest } (.invokestatic index) mk argsL.toArray X₁ hg hsize hdg hW (X₁.named hnamed) (hpre vm₁ X₁.warmed) with ⟨v, B, X', hpost, hsteps⟩ | ⟨q, B, X', hpost, hsteps⟩
  · exact Or.inl ⟨v, vm₁, B, X₁.warmed, X', hpost, fun target h => hstep₁ _ fun acts => by rw [doInvoke_state]; exact hsteps.trans h⟩
  · exact Or.inr ⟨q, vm₁, B, X₁.warmed, X', hpost, hstep₁ _ fun acts => by rw [doInvoke_state]; exact hsteps⟩
theorem vx_callVW (X : Stand p l e R s m args below meth c T locs cells slots) (hexec : p.tables.exec = Jvm.exec) {own C : String} {index : Nat} {y : MethodName} {bytes : ByteArray} {maxL : Nat} {ret : Option FieldType} {hh : List (Nat × Nat × Nat × Nat)}
    (hown : s.vm.findClass own = some m.cls) (hlink : (Cond.methodLink own index y).before args s = true) (hinst : (Cond.instanceMethod y).before args s = true) (hsel : (Cond.selects C y y).before args s = true)
    (hcode : (Cond.codeWith y bytes maxL ret hh).before args s = true) (hy : y.cls ≠ "java/lang/invoke/MethodHandle" ∧ y.cls ≠ "java/lang/invoke/VarHandle")
    {W9 : Nat} {Pre : Pt → Array Value → Prop} {Post : Pt → Array Value → Option Value → Pt → Prop} (hK : Back l R p e below s args y 3 W9 Pre Post)
    {b : Addr} {cellB : Cell} (hcell : T.heap[b]? = some cellB) (hobj : cellB.vm.isStatics = false) (hcls : s.vm.findClass C = some cellB.cls)
    {g : JFrame} (hg : g.method = m) (hsize : g.locals.size = c.maxLocals) {argsL rest : List Value} (hlen : ∀ sig, parseMethodDescriptor y.desc = some sig → argsL.length = sig.parameters.length)
    (hstack : g.stack = argsL.reverse ++ .ref b :: rest) (hW : 2 * g.monitorRoom + (rest.map fun v => v.category).sum ≤ W9) (hdg : decode c.code g.pc = .ok (.invokevirtual index, 3))
    (hpre : ∀ vm₁, s.WarmedH vm₁ → Pre ⟨T.setVm vm₁, locs, cells, slots⟩ (Value.ref b :: argsL).toArray) :
    ∃ (v : Option Value) (vm₁ : Vm) (B : Pt), s.WarmedH vm₁ ∧ Stand p l e R s m args below meth c B.U B.locs B.cells B.slots ∧ Post ⟨T.setVm vm₁, locs, cells, slots⟩ (Value.ref b :: argsL).toArray v B ∧
      ∀ target, Steps p.tables e below (B.U.setTop { g with pc := g.pc + 3, stack := v.toList ++ rest }) target → Steps p.tables e below (T.setTop g) target := by
  obtain ⟨mk, methM, hnamed, hmethM, hstM, habM⟩ := Cond.instanceMethod_spec hinst
  obtain ⟨m8, methM', cM, hn8, hmethM', -, -, -, -, -, -, hsigM⟩ := Cond.codeWith_spec hcode
  cases Option.some.inj (hn8.symm.trans hnamed)
  cases hmethM.symm.trans hmethM'
  obtain ⟨c2, r2, m2, q1, q2, q3, q4, kP, hkP, hkPi⟩ := Cond.selects_spec hsel
  cases hcls.symm.trans q1
  cases (State.methodFound?_of_named hnamed hy).symm.trans q2
  cases hnamed.symm.trans q3
  have hselP : selectMethod e.platform s.vm cellB.cls mk = .method mk := by rw [Launch.admits_selectMethod X.admits]; exact q4
  obtain ⟨vm₁, X₁, hstep₁⟩ := X.invokevirtual hexec hown hlink hnamed hmethM hstM hkP hkPi hy (a := b) (cell := cellB) hcell
    (fun z h => by rw [h] at hobj; cases hobj) hselP hmethM habM hkP hkPi (g := g) hg (argsL := argsL) (rest := rest) (hlen _ hsigM) hstack hdg
  obtain ⟨v, B, X', hpost, hsteps⟩ := hK m meth c ⟨T.setVm vm₁, locs, cells, slots⟩ { g with stack := rest } (.invokevirtual index) mk (Value.ref b :: argsL).toArray X₁ hg hsize hdg hW (X₁.named hnamed) (hpre vm₁ X₁.warmed)
  exact ⟨v, vm₁, B, X₁.warmed, X', hpost, fun target h => hstep₁ _ fun acts => by rw [doInvoke_state]; exact hsteps.trans h⟩
abbrev vx_CVW (R : Room) (s : State) (args : Array Value) (own C : String) (index : Nat) (y : MethodName) (bytes : ByteArray) (maxL : Nat) (ret : Option FieldType) (hh : List (Nat × Nat × Nat × Nat)) (ws : List Cond) (rm : Room) (mc ms n : Nat) : Prop :=
  (rm.cells = mc ∧ rm.slots = ms ∧ rm.frames + 1 ≤ R.frames ∧ 8 + (maxL + 11) + rm.locals ≤ R.locals ∧ (∀ w ∈ ws, ∀ (a' : Array Value) (U : State), s.WarmedH U.vm → w.before a' U = true) ∧ Cond.codeWith y bytes maxL ret hh ∈ ws) ∧
  (Cond.codeWith y bytes maxL ret hh).before args s = true ∧ (Cond.initialized y.cls).before args s = true ∧ (y.cls ≠ "java/lang/invoke/MethodHandle" ∧ y.cls ≠ "java/lang/invoke/VarHandle") ∧
  (∀ sig, parseMethodDescriptor y.desc = some sig → n = sig.parameters.length) ∧ (Cond.methodLink own index y).before args s = true ∧ (Cond.instanceMethod y).before args s = true ∧ (Cond.selects C y y).before args s = true
theorem vx_cwVW {own C : String} {index maxL mc ms : Nat} {y : MethodName} {bytes : ByteArray} {ret : Option FieldType} {hh : List (Nat × Nat × Nat × Nat)} {Ts ws ws' : List Cond} {rm : Room} (n : Nat) (ht : ∀ w ∈ Ts, w.before args s = true) (hT : GoodIn Ts (wsV own index C y ws)) (hw : ws = Cond.codeWith y bytes maxL ret hh :: ws') (hrc : rm.cells = mc) (hrs : rm.slots = ms)
    (hd : y.cls = C ∧ y.cls ≠ "java/lang/invoke/MethodHandle" ∧ y.cls ≠ "java/lang/invoke/VarHandle" ∧ (parseMethodDescriptor y.desc).map (fun d => d.parameters.length) = some n) (hR : rm.frames + 1 ≤ R.frames ∧ 8 + (maxL + 11) + rm.locals ≤ R.locals) :
    vx_CVW R s args own C index y bytes maxL ret hh ws rm mc ms n := by
  obtain ⟨hC, hd⟩ := hd
  subst hC
  have ok : ∀ w ∈ wsV own index y.cls y ws, w.before args s = true := fun w h => ht w (hT w h).1
  have hG : GoodIn Ts ws := fun w h => hT w (by unfold wsV; exact List.mem_append_right _ h)
  have hc : Cond.codeWith y bytes maxL ret hh ∈ ws := by rw [hw]; exact List.mem_cons_self
  refine ⟨⟨hrc, hrs, hR.1, hR.2, pay_in ht hG, hc⟩, ht _ (hG _ hc).1, ok _ (by simp [wsV]), ⟨hd.1, hd.2.1⟩, fun sig h => ?_, ok _ (by simp [wsV]), ok _ (by simp [wsV]), ok _ (by simp [wsV])⟩
  have h2 := hd.2.2
  rw [h] at h2
  exact (Option.some.inj h2).symm
theorem vx_runVW {y : MethodName} {bytes cc : ByteArray} {maxL nL mc ms n index : Nat} {ret : Option FieldType} {hh : List (Nat × Nat × Nat × Nat)} {ws : List Cond} {rm : Room} {Pc : Array Value → State → Prop} {Qc : Array Value → State → Outcome → State → Prop} {free : Addr → Prop} {Ts : List Cond} {own C : String} {b : Addr} {As rest : List Value} {g : JFrame}
    (S : CallFix p m c cc nL s args Ts own) (hM : Met l y ws rm Pc Qc mc ms free) (cw : vx_CVW R s args own C index y bytes maxL ret hh ws rm mc ms n) (hp : PreV s H C b Pc As)
    (hg : g.method = m) (hn : As.length = n) (hsize : g.locals.size = nL) (hstack : g.stack = As.reverse ++ .ref b :: rest) (hW : 2 * g.monitorRoom + (rest.map fun v => v.category).sum ≤ 8) (hdg : decode cc g.pc = .ok (.invokevirtual index, 3)) (hf : cells + mc ≤ R.cells ∧ slots + ms ≤ R.slots) :
    va_Run p l e R s m args below meth c H locs cells slots mc ms g rest (Qc (Value.ref b :: As).toArray) free := by
  obtain ⟨⟨hrc, hrs, hfr, hlo, hws, hcw⟩, hcode, hini, hy, hlen, hl, hin, hse⟩ := cw
  have hK : Back l R p e below s args y 3 8 (PreOf R mc ms Pc) (PostOf Qc mc ms free) := va_backW (hh := hh) (bytes := bytes) (maxL := maxL) (ret := ret) hM hp.1 hrc hrs hfr hlo hws hcw (fun a' U hW => word_at hW (Or.inl (by first | rfl | simp [Cond.onTables, Cond.keeps, Cond.steady])) hini)
  obtain ⟨hx, hb, hml, ho, -⟩ := S
  obtain ⟨-, ⟨cellB, hcB, hoB, hclB⟩, hPc⟩ := hp
  intro T hT X
  obtain ⟨v, vm₁, ⟨U', l2, c2, s2⟩, hW₁, X', ⟨g', mk, t, L, e1, e2, hq, h1, hL, h2, h3⟩, st⟩ := vx_callVW X hx (C := C) (hh := hh) (bytes := bytes) (maxL := maxL) (ret := ret) ho hl hin hse hcode hy hK (by rw [hT]; exact hcB) hoB hclB hg (hsize.trans hml.symm) (argsL := As) (rest := rest) (fun sig h => hn.trans (hlen sig h)) hstack hW (by rw [hb]; exact hdg)
    (fun vm₁ hW₁ => ⟨hf.1, hf.2, hPc (T.setVm vm₁) hT hW₁⟩)
  dsimp only [Pt.U, Pt.locs, Pt.cells, Pt.slots] at X' e1 e2 h1 h2 h3 st
  subst h1; subst h2; subst h3
  exact ⟨v, (T.setVm vm₁).calling g' mk (Value.ref b :: As).toArray, t, U', L, hT, X', hL, e1, e2, hq, st⟩
section
variable {y : MethodName} {bytes cc : ByteArray} {maxL nL mc ms n index : Nat} {ret : Option FieldType} {ws : List Cond} {rm : Room} {Pc : Array Value → State → Prop} {Qc : Array Value → State → Outcome → State → Prop} {XC : String → State → State → Prop} {free : Addr → Prop} {Ts : List Cond} {own C : String} {b : Addr} {As rest : List Value} {g : JFrame}
theorem vx_runVX {hh : List (Nat × Nat × Nat × Nat)} (S : CallFix p m c cc nL s args Ts own) (hM : vx_Met l y ws rm Pc Qc XC mc ms free) (cw : vx_CVW R s args own C index y bytes maxL ret hh ws rm mc ms n) (hp : PreV s H C b Pc As)
    (hg : g.method = m) (hn : As.length = n) (hsize : g.locals.size = nL) (hstack : g.stack = As.reverse ++ .ref b :: rest) (hW : 2 * g.monitorRoom + (rest.map fun v => v.category).sum ≤ 8) (hdg : decode cc g.pc = .ok (.invokevirtual index, 3)) (hf : cells + mc ≤ R.cells ∧ slots + ms ≤ R.slots) :
    vx_Run p l e R s m args below meth c H locs cells slots mc ms g rest (Qc (Value.ref b :: As).toArray) XC free := by
  obtain ⟨⟨hrc, hrs, hfr, hlo, hws, hcw⟩, hcode, hini, hy, hlen, hl, hin, hse⟩ := cw
  have hK : vx_Back l R p e below s args y 3 8 (PreOf R mc ms Pc) (PostOf Qc mc ms free) (vx_Post XC mc ms free) := vx_backW (hh := hh) (bytes := bytes) (maxL := maxL) (ret := ret) hM hp.1 hrc hrs hfr hlo hws hcw (fun a' U hW => word_at hW (Or.inl (by first | rfl | simp [Cond.onTables, Cond.keeps, Cond.steady])) hini)
  obtain ⟨hx, hb, hml, ho, -⟩ := S
  obtain ⟨-, ⟨cellB, hcB, hoB, hclB⟩, hPc⟩ := hp
  intro T hT X
  rcases vx_callVX X hx (C := C) (hh := hh) (bytes := bytes) (maxL := maxL) (ret := ret) ho hl hin hse hcode hy hK (by rw [hT]; exact hcB) hoB hclB hg (hsize.trans hml.symm) (argsL := As) (rest := rest) (fun sig h => hn.trans (hlen sig h)) hstack hW (by rw [hb]; exact hdg)
    (fun vm₁ hW₁ => ⟨hf.1, hf.2, hPc (T.setVm vm₁) hT hW₁⟩) with ⟨v, vm₁, ⟨U', l2, c2, s2⟩, hW₁, X', ⟨g', mk, t, L, e1, e2, hq, h1, hL, h2, h3⟩, st⟩ | ⟨q, vm₁, ⟨U', l2, c2, s2⟩, hW₁, X', ⟨g', mk, t, L, E, ce, e1, e2, hq, hce, hcv, hcl, h1, hL, h2, h3⟩, st⟩
  · dsimp only [Pt.U, Pt.locs, Pt.cells, Pt.slots] at X' e1 e2 h1 h2 h3 st
    subst h1; subst h2; subst h3
    exact Or.inl ⟨v, (T.setVm vm₁).calling g' mk (Value.ref b :: As).toArray, t, U', L, hT, X', hL, e1, e2, hq, st⟩
  · dsimp only [Pt.U, Pt.locs, Pt.cells, Pt.slots] at X' e1 e2 h1 h2 h3 st hcl
    subst h1; subst h2; subst h3
    exact Or.inr ⟨q, (T.setVm vm₁).calling g' mk (Value.ref b :: As).toArray, t, U', L, E, ce, hT, X', hL, e1, e2, hq, hce, hcv, vx_cls hW₁ hcl, st⟩
theorem vx_runSX {hh : List (Nat × Nat × Nat × Nat)} (S : CallFix p m c cc nL s args Ts own) (hM : vx_Met l y ws rm Pc Qc XC mc ms free) (cw : vx_CSW R s args own index y bytes maxL ret hh ws rm mc ms n) (hp : PreS s H Pc As)
    (hg : g.method = m) (hn : As.length = n) (hsize : g.locals.size = nL) (hstack : g.stack = As.reverse ++ rest) (hW : 2 * g.monitorRoom + (rest.map fun v => v.category).sum ≤ 8) (hdg : decode cc g.pc = .ok (.invokestatic index, 3)) (hf : cells + mc ≤ R.cells ∧ slots + ms ≤ R.slots) :
    vx_Run p l e R s m args below meth c H locs cells slots mc ms g rest (Qc As.toArray) XC free := by
  obtain ⟨⟨hrc, hrs, hfr, hlo, hws, hcw⟩, hcode, hini, hy, hlen, hl, hstt⟩ := cw
  have hK : vx_Back l R p e below s args y 3 8 (PreOf R mc ms Pc) (PostOf Qc mc ms free) (vx_Post XC mc ms free) := vx_backW (hh := hh) (bytes := bytes) (maxL := maxL) (ret := ret) hM hp.1 hrc hrs hfr hlo hws hcw (fun a' U hW => word_at hW (Or.inl (by first | rfl | simp [Cond.onTables, Cond.keeps, Cond.steady])) hini)
  obtain ⟨hx, hb, hml, ho, -⟩ := S
  intro T hT X
  rcases vx_callSX X hx (hh := hh) (bytes := bytes) (maxL := maxL) (ret := ret) ho hl hstt hini hcode hy hK hg (hsize.trans hml.symm) (argsL := As) (rest := rest) (fun sig h => hn.trans (hlen sig h)) hstack hW (by rw [hb]; exact hdg)
    (fun vm₁ hW₁ => ⟨hf.1, hf.2, hp.2 (T.setVm vm₁) hT hW₁⟩) with ⟨v, vm₁, ⟨U', l2, c2, s2⟩, hW₁, X', ⟨g', mk, t, L, e1, e2, hq, h1, hL, h2, h3⟩, st⟩ | ⟨q, vm₁, ⟨U', l2, c2, s2⟩, hW₁, X', ⟨g', mk, t, L, E, ce, e1, e2, hq, hce, hcv, hcl, h1, hL, h2, h3⟩, st⟩
  · dsimp only [Pt.U, Pt.locs, Pt.cells, Pt.slots] at X' e1 e2 h1 h2 h3 st
    subst h1; subst h2; subst h3
    exact Or.inl ⟨v, (T.setVm vm₁).calling g' mk As.toArray, t, U', L, hT, X', hL, e1, e2, hq, st⟩
  · dsimp only [Pt.U, Pt.locs, Pt.cells, Pt.slots] at X' e1 e2 h1 h2 h3 st hcl
    subst h1; subst h2; subst h3
    exact Or.inr ⟨q, (T.setVm vm₁).calling g' mk As.toArray, t, U', L, E, ce, hT, X', hL, e1, e2, hq, hce, hcv, vx_cls hW₁ hcl, st⟩
end
end VXH
theorem vx_ofWH {l : Launch} {y : MethodName} {ws ws' : List Cond} {rm : Room} {Pc : Array Value → State → Prop} {Qc : Array Value → State → Outcome → State → Prop} {XC : String → State → State → Prop} {mc ms : Nat} {free : Addr → Prop} {cc : ByteArray} {maxL : Nat} {ret : Option FieldType} {hh : List (Nat × Nat × Nat × Nat)}
    (hy : plainName y.cls = true) (hw : ws = Cond.codeWith y cc maxL ret hh :: ws')
    (body : ∀ p e s m args below meth c s₁, BodyLoose p l y (headSpec ws rm) cc maxL ret e s m args below meth c s₁ → c.maxLocals = maxL → Pc args s →
      W p l e (headSpec ws rm).room s m args below meth c s.heap [] 0 0 (vx_MQ below Qc XC args s mc ms free) (entryFrame m args maxL)) : vx_Met l y ws rm Pc Qc XC mc ms free := by
  refine MetFree.of_bodyS (code := cc) (maxLocals := maxL) (ret := ret) hy ?_ ?_
  · intro args s m h hn
    obtain ⟨m9, meth, c, hn9, h1, h2, h3, h4, -, h5, h6, -⟩ := Cond.codeWith_spec (atoms_spec (ws := ws) h _ (by rw [hw]; exact List.mem_cons_self))
    cases hn.symm.trans hn9
    exact ⟨meth, c, h1, h2, h3, h4, h5, h6⟩
  · intro p e s m args below meth c s₁ B hml hP _
    have hh0 : s₁.heap = s.heap := by rw [B.state]; rfl
    obtain ⟨t, a1, o, b1, b2, b3⟩ := body p e s m args below meth c s₁ B hml hP s₁ hh0 (Stand.of_body B)
    exact ⟨t, o, a1, b1, b2, b3⟩
/-! ===== END ===== -/
end
section
/-! ===== BEGIN printed: names, fields, word lists, decode rows ===== -/
def RX0 : String := "PenGuild$Division"
def TX0 : u_T := fun k => match k with
  | 0 => ("PenGuild$Division", "byPercent", "I", false)
  | 1 => ("PenGuild$Division", "overCap", "I", false)
  | 2 => ("PenGuild$Division", "bylineOwner", "I", false)
  | 3 => ("PenGuild$Division", "toByline", "I", false)
  | 4 => ("PenGuild$Division", "byParts", "[I", true)
  | _ => ("PenGuild$Division", "remainders", "[I", true)
def tyX0 : Nat → FieldType := fun k => match k with
  | 0 => .int
  | 1 => .int
  | 2 => .int
  | 3 => .int
  | 4 => .array .int
  | _ => .array .int
abbrev wsX00 : List Cond := u_ws RX0 TX0 6
theorem nmX0 : ∀ a, a < 6 → ∀ b, b < 6 → a ≠ b → (TX0 a).2.1 ≠ (TX0 b).2.1 := by decide +kernel
theorem tyX0_ok : ∀ k, k < 6 → parseFieldDescriptor (TX0 k).2.2.1 = some (tyX0 k) := by decide +kernel
abbrev cX0_init : ByteArray := prog_2_method_1_code
def yX0_init : MethodName := ⟨RX0, "<init>", "()V"⟩
abbrev cX0_divideFee : ByteArray := prog_2_method_2_code
def yX0_divideFee : MethodName := ⟨RX0, "divideFee", "(LPenGuild$State;II)V"⟩
abbrev cX0_divideRoyalty : ByteArray := prog_2_method_3_code
def yX0_divideRoyalty : MethodName := ⟨RX0, "divideRoyalty", "(LPenGuild$State;II)V"⟩
abbrev cX0_begin : ByteArray := prog_2_method_4_code
def yX0_begin : MethodName := ⟨RX0, "begin", "(LPenGuild$State;II)V"⟩
abbrev cX0_split : ByteArray := prog_2_method_5_code
def yX0_split : MethodName := ⟨RX0, "split", "(LPenGuild$Pieces;II)V"⟩
abbrev cX0_giveUnit : ByteArray := prog_2_method_6_code
def yX0_giveUnit : MethodName := ⟨RX0, "giveUnit", "()V"⟩
abbrev cX0_cutToCap : ByteArray := prog_2_method_7_code
def yX0_cutToCap : MethodName := ⟨RX0, "cutToCap", "(LPenGuild$Pieces;II)V"⟩
def RX1 : String := "PenGuild$FairParts"
def TX1 : u_T := fun k => match k with
  | 0 => ("PenGuild$FairParts", "parts", "[I", true)
  | 1 => ("PenGuild$FairParts", "writers", "[I", true)
  | 2 => ("PenGuild$FairParts", "drafts", "[I", true)
  | 3 => ("PenGuild$FairParts", "trial", "[I", true)
  | 4 => ("PenGuild$FairParts", "size", "I", false)
  | _ => ("PenGuild$FairParts", "allDrafts", "I", false)
def tyX1 : Nat → FieldType := fun k => match k with
  | 0 => .array .int
  | 1 => .array .int
  | 2 => .array .int
  | 3 => .array .int
  | 4 => .int
  | _ => .int
abbrev wsX10 : List Cond := u_ws RX1 TX1 6
theorem nmX1 : ∀ a, a < 6 → ∀ b, b < 6 → a ≠ b → (TX1 a).2.1 ≠ (TX1 b).2.1 := by decide +kernel
theorem tyX1_ok : ∀ k, k < 6 → parseFieldDescriptor (TX1 k).2.2.1 = some (tyX1 k) := by decide +kernel
abbrev cX1_init : ByteArray := prog_3_method_1_code
def yX1_init : MethodName := ⟨RX1, "<init>", "()V"⟩
abbrev cX1_find : ByteArray := prog_3_method_2_code
def yX1_find : MethodName := ⟨RX1, "find", "(LPenGuild$Pieces;I)V"⟩
abbrev cX1_begin : ByteArray := prog_3_method_3_code
def yX1_begin : MethodName := ⟨RX1, "begin", "(LPenGuild$Pieces;I)V"⟩
abbrev cX1_setTrial : ByteArray := prog_3_method_4_code
def yX1_setTrial : MethodName := ⟨RX1, "setTrial", "(I)I"⟩
abbrev cX1_gap : ByteArray := prog_3_method_5_code
def yX1_gap : MethodName := ⟨RX1, "gap", "(I)I"⟩
abbrev cX1_keepTrial : ByteArray := prog_3_method_6_code
def yX1_keepTrial : MethodName := ⟨RX1, "keepTrial", "()V"⟩
def RX2 : String := "PenGuild$PartsText"
def TX2 : u_T := fun k => match k with
  | 0 => ("PenGuild$PartsText", "codes", "[I", true)
  | 1 => ("PenGuild$PartsText", "length", "I", false)
  | 2 => ("PenGuild$PartsText", "parts", "[I", true)
  | 3 => ("PenGuild$PartsText", "place", "I", false)
  | 4 => ("PenGuild$PartsText", "itemPen", "I", false)
  | 5 => ("PenGuild$PartsText", "itemParts", "I", false)
  | _ => ("PenGuild$PartsText", "itemsEnded", "I", false)
def tyX2 : Nat → FieldType := fun k => match k with
  | 0 => .array .int
  | 1 => .int
  | 2 => .array .int
  | 3 => .int
  | 4 => .int
  | 5 => .int
  | _ => .int
abbrev wsX20 : List Cond := u_ws RX2 TX2 7
theorem nmX2 : ∀ a, a < 7 → ∀ b, b < 7 → a ≠ b → (TX2 a).2.1 ≠ (TX2 b).2.1 := by decide +kernel
theorem tyX2_ok : ∀ k, k < 7 → parseFieldDescriptor (TX2 k).2.2.1 = some (tyX2 k) := by decide +kernel
abbrev cX2_init : ByteArray := prog_4_method_1_code
def yX2_init : MethodName := ⟨RX2, "<init>", "()V"⟩
abbrev cX2_isList : ByteArray := prog_4_method_2_code
def yX2_isList : MethodName := ⟨RX2, "isList", "()Z"⟩
abbrev cX2_greatestPen : ByteArray := prog_4_method_3_code
def yX2_greatestPen : MethodName := ⟨RX2, "greatestPen", "()I"⟩
abbrev cX2_readToError : ByteArray := prog_4_method_4_code
def yX2_readToError : MethodName := ⟨RX2, "readToError", "()I"⟩
abbrev cX2_takes : ByteArray := prog_4_method_5_code
def yX2_takes : MethodName := ⟨RX2, "takes", "(I)Z"⟩
abbrev cX2_takesDigit : ByteArray := prog_4_method_6_code
def yX2_takesDigit : MethodName := ⟨RX2, "takesDigit", "(I)Z"⟩
abbrev cX2_takesOne : ByteArray := prog_4_method_7_code
def yX2_takesOne : MethodName := ⟨RX2, "takesOne", "()Z"⟩
abbrev cX2_takesAfterOne : ByteArray := prog_4_method_8_code
def yX2_takesAfterOne : MethodName := ⟨RX2, "takesAfterOne", "(I)Z"⟩
abbrev cX2_takesPen : ByteArray := prog_4_method_9_code
def yX2_takesPen : MethodName := ⟨RX2, "takesPen", "(I)Z"⟩
abbrev cX2_takesStar : ByteArray := prog_4_method_10_code
def yX2_takesStar : MethodName := ⟨RX2, "takesStar", "(I)Z"⟩
abbrev cX2_takesFactor : ByteArray := prog_4_method_11_code
def yX2_takesFactor : MethodName := ⟨RX2, "takesFactor", "(I)Z"⟩
abbrev cX2_takesComma : ByteArray := prog_4_method_12_code
def yX2_takesComma : MethodName := ⟨RX2, "takesComma", "(I)Z"⟩
abbrev cX2_endItem : ByteArray := prog_4_method_13_code
def yX2_endItem : MethodName := ⟨RX2, "endItem", "()V"⟩
def RX3 : String := "PenGuild$Pens"
def TX3 : u_T := fun k => match k with
  | 0 => ("PenGuild$Pens", "size", "I", false)
  | 1 => ("PenGuild$Pens", "balance", "[I", true)
  | 2 => ("PenGuild$Pens", "owed", "[I", true)
  | 3 => ("PenGuild$Pens", "income", "[I", true)
  | 4 => ("PenGuild$Pens", "owner", "[I", true)
  | 5 => ("PenGuild$Pens", "price", "[I", true)
  | _ => ("PenGuild$Pens", "paidOut", "[I", true)
def tyX3 : Nat → FieldType := fun k => match k with
  | 0 => .int
  | 1 => .array .int
  | 2 => .array .int
  | 3 => .array .int
  | 4 => .array .int
  | 5 => .array .int
  | _ => .array .int
abbrev wsX30 : List Cond := u_ws RX3 TX3 7
theorem nmX3 : ∀ a, a < 7 → ∀ b, b < 7 → a ≠ b → (TX3 a).2.1 ≠ (TX3 b).2.1 := by decide +kernel
theorem tyX3_ok : ∀ k, k < 7 → parseFieldDescriptor (TX3 k).2.2.1 = some (tyX3 k) := by decide +kernel
abbrev cX3_init : ByteArray := prog_5_method_1_code
def yX3_init : MethodName := ⟨RX3, "<init>", "()V"⟩
abbrev cX3_copyFrom : ByteArray := prog_5_method_2_code
def yX3_copyFrom : MethodName := ⟨RX3, "copyFrom", "(LPenGuild$Pens;)V"⟩
abbrev cX3_passByline : ByteArray := prog_5_method_3_code
def yX3_passByline : MethodName := ⟨RX3, "passByline", "(III)V"⟩
abbrev cX3_earn : ByteArray := prog_5_method_4_code
def yX3_earn : MethodName := ⟨RX3, "earn", "(II)I"⟩
abbrev cX3_bylinesOf : ByteArray := prog_5_method_5_code
def yX3_bylinesOf : MethodName := ⟨RX3, "bylinesOf", "(I)I"⟩
abbrev cX3_bylinesAway : ByteArray := prog_5_method_6_code
def yX3_bylinesAway : MethodName := ⟨RX3, "bylinesAway", "()I"⟩
abbrev cX3_placeOf : ByteArray := prog_5_method_7_code
def yX3_placeOf : MethodName := ⟨RX3, "placeOf", "(I)I"⟩
abbrev cX3_differences : ByteArray := prog_5_method_8_code
def yX3_differences : MethodName := ⟨RX3, "differences", "()I"⟩
def RX4 : String := "PenGuild$Pieces"
def TX4 : u_T := fun k => match k with
  | 0 => ("PenGuild$Pieces", "size", "I", false)
  | 1 => ("PenGuild$Pieces", "byline", "[I", true)
  | 2 => ("PenGuild$Pieces", "fee", "[I", true)
  | 3 => ("PenGuild$Pieces", "stage", "[I", true)
  | 4 => ("PenGuild$Pieces", "contract", "[I", true)
  | 5 => ("PenGuild$Pieces", "royalties", "[I", true)
  | 6 => ("PenGuild$Pieces", "parts", "[I", true)
  | 7 => ("PenGuild$Pieces", "drafts", "[I", true)
  | _ => ("PenGuild$Pieces", "gotThisYear", "[I", true)
def tyX4 : Nat → FieldType := fun k => match k with
  | 0 => .int
  | 1 => .array .int
  | 2 => .array .int
  | 3 => .array .int
  | 4 => .array .int
  | 5 => .array .int
  | 6 => .array .int
  | 7 => .array .int
  | _ => .array .int
abbrev wsX40 : List Cond := u_ws RX4 TX4 9
theorem nmX4 : ∀ a, a < 9 → ∀ b, b < 9 → a ≠ b → (TX4 a).2.1 ≠ (TX4 b).2.1 := by decide +kernel
theorem tyX4_ok : ∀ k, k < 9 → parseFieldDescriptor (TX4 k).2.2.1 = some (tyX4 k) := by decide +kernel
abbrev cX4_init : ByteArray := prog_6_method_1_code
def yX4_init : MethodName := ⟨RX4, "<init>", "()V"⟩
abbrev cX4_copyFrom : ByteArray := prog_6_method_2_code
def yX4_copyFrom : MethodName := ⟨RX4, "copyFrom", "(LPenGuild$Pieces;)V"⟩
abbrev cX4_begin : ByteArray := prog_6_method_3_code
def yX4_begin : MethodName := ⟨RX4, "begin", "(II)I"⟩
abbrev cX4_allParts : ByteArray := prog_6_method_4_code
def yX4_allParts : MethodName := ⟨RX4, "allParts", "(I)I"⟩
abbrev cX4_allDrafts : ByteArray := prog_6_method_5_code
def yX4_allDrafts : MethodName := ⟨RX4, "allDrafts", "(I)I"⟩
abbrev cX4_draftsBy : ByteArray := prog_6_method_6_code
def yX4_draftsBy : MethodName := ⟨RX4, "draftsBy", "(I)I"⟩
abbrev cX4_sharers : ByteArray := prog_6_method_7_code
def yX4_sharers : MethodName := ⟨RX4, "sharers", "(I)I"⟩
abbrev cX4_inStage : ByteArray := prog_6_method_8_code
def yX4_inStage : MethodName := ⟨RX4, "inStage", "(I)I"⟩
abbrev cX4_disputers : ByteArray := prog_6_method_9_code
def yX4_disputers : MethodName := ⟨RX4, "disputers", "(I)I"⟩
abbrev cX4_takeParts : ByteArray := prog_6_method_10_code
def yX4_takeParts : MethodName := ⟨RX4, "takeParts", "(I[I)V"⟩
abbrev cX4_takePartsFromDrafts : ByteArray := prog_6_method_11_code
def yX4_takePartsFromDrafts : MethodName := ⟨RX4, "takePartsFromDrafts", "(I)V"⟩
abbrev cX4_addToYear : ByteArray := prog_6_method_12_code
def yX4_addToYear : MethodName := ⟨RX4, "addToYear", "(I[I)V"⟩
abbrev cX4_writers : ByteArray := prog_6_method_13_code
def yX4_writers : MethodName := ⟨RX4, "writers", "(I)I"⟩
abbrev cX4_writerWithMost : ByteArray := prog_6_method_14_code
def yX4_writerWithMost : MethodName := ⟨RX4, "writerWithMost", "(II)I"⟩
def RX5 : String := "PenGuild$State"
def TX5 : u_T := fun k => match k with
  | 0 => ("PenGuild$State", "pens", "LPenGuild$Pens;", true)
  | 1 => ("PenGuild$State", "pieces", "LPenGuild$Pieces;", true)
  | 2 => ("PenGuild$State", "settings", "[I", true)
  | 3 => ("PenGuild$State", "year", "I", false)
  | 4 => ("PenGuild$State", "reserve", "I", false)
  | 5 => ("PenGuild$State", "cameIn", "I", false)
  | 6 => ("PenGuild$State", "overCap", "I", false)
  | _ => ("PenGuild$State", "disputes", "I", false)
def tyX5 : Nat → FieldType := fun k => match k with
  | 0 => .object "PenGuild$Pens"
  | 1 => .object "PenGuild$Pieces"
  | 2 => .array .int
  | 3 => .int
  | 4 => .int
  | 5 => .int
  | 6 => .int
  | _ => .int
abbrev wsX50 : List Cond := u_ws RX5 TX5 8
theorem nmX5 : ∀ a, a < 8 → ∀ b, b < 8 → a ≠ b → (TX5 a).2.1 ≠ (TX5 b).2.1 := by decide +kernel
theorem tyX5_ok : ∀ k, k < 8 → parseFieldDescriptor (TX5 k).2.2.1 = some (tyX5 k) := by decide +kernel
abbrev cX5_init : ByteArray := prog_7_method_1_code
def yX5_init : MethodName := ⟨RX5, "<init>", "()V"⟩
abbrev cX5_copyFrom : ByteArray := prog_7_method_2_code
def yX5_copyFrom : MethodName := ⟨RX5, "copyFrom", "(LPenGuild$State;)V"⟩
abbrev cX5_killFee : ByteArray := prog_7_method_3_code
def yX5_killFee : MethodName := ⟨RX5, "killFee", "(I)I"⟩
def RX6 : String := "PenGuild"
def TX6 : u_T := fun k => match k with
  | 0 => ("PenGuild", "ring", "[LPenGuild$State;", true)
  | 1 => ("PenGuild", "present", "I", false)
  | 2 => ("PenGuild", "saved", "I", false)
  | 3 => ("PenGuild", "now", "LPenGuild$State;", false)
  | 4 => ("PenGuild", "text", "LPenGuild$PartsText;", true)
  | 5 => ("PenGuild", "division", "LPenGuild$Division;", true)
  | 6 => ("PenGuild", "fair", "LPenGuild$FairParts;", true)
  | 7 => ("PenGuild", "best", "[I", true)
  | _ => ("PenGuild", "bestGain", "[I", true)
def tyX6 : Nat → FieldType := fun k => match k with
  | 0 => .array (.object "PenGuild$State")
  | 1 => .int
  | 2 => .int
  | 3 => .object "PenGuild$State"
  | 4 => .object "PenGuild$PartsText"
  | 5 => .object "PenGuild$Division"
  | 6 => .object "PenGuild$FairParts"
  | 7 => .array .int
  | _ => .array .int
abbrev wsX60 : List Cond := u_ws RX6 TX6 9
theorem nmX6 : ∀ a, a < 9 → ∀ b, b < 9 → a ≠ b → (TX6 a).2.1 ≠ (TX6 b).2.1 := by decide +kernel
theorem tyX6_ok : ∀ k, k < 9 → parseFieldDescriptor (TX6 k).2.2.1 = some (tyX6 k) := by decide +kernel
abbrev cX6_init : ByteArray := prog_1_method_1_code
def yX6_init : MethodName := ⟨RX6, "<init>", "()V"⟩
abbrev cX6_addPen : ByteArray := prog_1_method_2_code
def yX6_addPen : MethodName := ⟨RX6, "addPen", "()I"⟩
abbrev cX6_sell : ByteArray := prog_1_method_3_code
def yX6_sell : MethodName := ⟨RX6, "sell", "(III)I"⟩
abbrev cX6_buyBack : ByteArray := prog_1_method_4_code
def yX6_buyBack : MethodName := ⟨RX6, "buyBack", "(I)I"⟩
abbrev cX6_advance : ByteArray := prog_1_method_5_code
def yX6_advance : MethodName := ⟨RX6, "advance", "(II)I"⟩
abbrev cX6_withdraw : ByteArray := prog_1_method_6_code
def yX6_withdraw : MethodName := ⟨RX6, "withdraw", "(II)I"⟩
abbrev cX6_set : ByteArray := prog_1_method_7_code
def yX6_set : MethodName := ⟨RX6, "set", "(II)I"⟩
abbrev cX6_nextYear : ByteArray := prog_1_method_8_code
def yX6_nextYear : MethodName := ⟨RX6, "nextYear", "()I"⟩
abbrev cX6_order : ByteArray := prog_1_method_9_code
def yX6_order : MethodName := ⟨RX6, "order", "(II)I"⟩
abbrev cX6_draft : ByteArray := prog_1_method_10_code
def yX6_draft : MethodName := ⟨RX6, "draft", "(II)I"⟩
abbrev cX6_revise : ByteArray := prog_1_method_11_code
def yX6_revise : MethodName := ⟨RX6, "revise", "(II)I"⟩
abbrev cX6_share : ByteArray := prog_1_method_12_code
def yX6_share : MethodName := ⟨RX6, "share", "(I)I"⟩
abbrev cX6_accept : ByteArray := prog_1_method_13_code
def yX6_accept : MethodName := ⟨RX6, "accept", "(I)I"⟩
abbrev cX6_kill : ByteArray := prog_1_method_14_code
def yX6_kill : MethodName := ⟨RX6, "kill", "(I)I"⟩
abbrev cX6_royalty : ByteArray := prog_1_method_15_code
def yX6_royalty : MethodName := ⟨RX6, "royalty", "(II)I"⟩
abbrev cX6_dispute : ByteArray := prog_1_method_16_code
def yX6_dispute : MethodName := ⟨RX6, "dispute", "(II)I"⟩
abbrev cX6_append : ByteArray := prog_1_method_17_code
def yX6_append : MethodName := ⟨RX6, "append", "(I)I"⟩
abbrev cX6_clearBuffer : ByteArray := prog_1_method_18_code
def yX6_clearBuffer : MethodName := ⟨RX6, "clearBuffer", "()I"⟩
abbrev cX6_firstError : ByteArray := prog_1_method_19_code
def yX6_firstError : MethodName := ⟨RX6, "firstError", "()I"⟩
abbrev cX6_undo : ByteArray := prog_1_method_20_code
def yX6_undo : MethodName := ⟨RX6, "undo", "()I"⟩
abbrev cX6_pen : ByteArray := prog_1_method_21_code
def yX6_pen : MethodName := ⟨RX6, "pen", "(II)I"⟩
abbrev cX6_piece : ByteArray := prog_1_method_22_code
def yX6_piece : MethodName := ⟨RX6, "piece", "(II)I"⟩
abbrev cX6_between : ByteArray := prog_1_method_23_code
def yX6_between : MethodName := ⟨RX6, "between", "(III)I"⟩
abbrev cX6_count : ByteArray := prog_1_method_24_code
def yX6_count : MethodName := ⟨RX6, "count", "(I)I"⟩
abbrev cX6_setting : ByteArray := prog_1_method_25_code
def yX6_setting : MethodName := ⟨RX6, "setting", "(I)I"⟩
abbrev cX6_ifPaid : ByteArray := prog_1_method_26_code
def yX6_ifPaid : MethodName := ⟨RX6, "ifPaid", "(III)I"⟩
abbrev cX6_fairest : ByteArray := prog_1_method_27_code
def yX6_fairest : MethodName := ⟨RX6, "fairest", "(II)I"⟩
abbrev cX6_bestPiece : ByteArray := prog_1_method_28_code
def yX6_bestPiece : MethodName := ⟨RX6, "bestPiece", "(II)I"⟩
abbrev cX6_spread : ByteArray := prog_1_method_29_code
def yX6_spread : MethodName := ⟨RX6, "spread", "()D"⟩
abbrev cX6_digest : ByteArray := prog_1_method_30_code
def yX6_digest : MethodName := ⟨RX6, "digest", "()J"⟩
abbrev cX6_needPen : ByteArray := prog_1_method_31_code
def yX6_needPen : MethodName := ⟨RX6, "needPen", "(I)V"⟩
abbrev cX6_needPiece : ByteArray := prog_1_method_32_code
def yX6_needPiece : MethodName := ⟨RX6, "needPiece", "(I)V"⟩
abbrev cX6_needSetting : ByteArray := prog_1_method_33_code
def yX6_needSetting : MethodName := ⟨RX6, "needSetting", "(I)V"⟩
abbrev cX6_needRange : ByteArray := prog_1_method_34_code
def yX6_needRange : MethodName := ⟨RX6, "needRange", "(III)V"⟩
abbrev cX6_needAtLeast : ByteArray := prog_1_method_35_code
def yX6_needAtLeast : MethodName := ⟨RX6, "needAtLeast", "(II)V"⟩
abbrev cX6_needUnended : ByteArray := prog_1_method_36_code
def yX6_needUnended : MethodName := ⟨RX6, "needUnended", "(I)V"⟩
abbrev cX6_needAccepted : ByteArray := prog_1_method_37_code
def yX6_needAccepted : MethodName := ⟨RX6, "needAccepted", "(I)V"⟩
abbrev cX6_save : ByteArray := prog_1_method_38_code
def yX6_save : MethodName := ⟨RX6, "save", "()V"⟩
abbrev cX6_bringIn : ByteArray := prog_1_method_39_code
def yX6_bringIn : MethodName := ⟨RX6, "bringIn", "(I)I"⟩
abbrev cX6_gainOf : ByteArray := prog_1_method_40_code
def yX6_gainOf : MethodName := ⟨RX6, "gainOf", "(I)I"⟩
abbrev cX6_findBest : ByteArray := prog_1_method_41_code
def yX6_findBest : MethodName := ⟨RX6, "findBest", "(I)V"⟩
abbrev cX6_preferIfBetter : ByteArray := prog_1_method_42_code
def yX6_preferIfBetter : MethodName := ⟨RX6, "preferIfBetter", "(I)V"⟩
abbrev cX6_mixPen : ByteArray := prog_1_method_43_code
def yX6_mixPen : MethodName := ⟨RX6, "mixPen", "(JI)J"⟩
abbrev cX6_mixPiece : ByteArray := prog_1_method_44_code
def yX6_mixPiece : MethodName := ⟨RX6, "mixPiece", "(JI)J"⟩
abbrev cX6_mix : ByteArray := prog_1_method_45_code
def yX6_mix : MethodName := ⟨RX6, "mix", "(JJ)J"⟩
abbrev cX6_bitsOf : ByteArray := prog_1_method_46_code
def yX6_bitsOf : MethodName := ⟨RX6, "bitsOf", "(D)J"⟩
abbrev cX6_withheld : ByteArray := prog_1_method_47_code
def yX6_withheld : MethodName := ⟨RX6, "withheld", "(II)I"⟩
abbrev cX6_at : ByteArray := prog_1_method_48_code
def yX6_at : MethodName := ⟨RX6, "at", "(II)I"⟩
abbrev cX6_isIn : ByteArray := prog_1_method_49_code
def yX6_isIn : MethodName := ⟨RX6, "isIn", "(II)Z"⟩
abbrev cX6_sum : ByteArray := prog_1_method_50_code
def yX6_sum : MethodName := ⟨RX6, "sum", "([I)I"⟩
abbrev cX6_sumOf : ByteArray := prog_1_method_51_code
def yX6_sumOf : MethodName := ⟨RX6, "sumOf", "([II)I"⟩
abbrev cX6_copyRow : ByteArray := prog_1_method_52_code
def yX6_copyRow : MethodName := ⟨RX6, "copyRow", "([I[I)V"⟩
def RX7 : String := "PenGuildModel"
def TX7 : u_T := fun k => match k with
  | 0 => ("PenGuildModel", "z", "[I", true)
  | 1 => ("PenGuildModel", "aside", "[I", true)
  | 2 => ("PenGuildModel", "rows", "[I", true)
  | 3 => ("PenGuildModel", "text", "[I", true)
  | 4 => ("PenGuildModel", "readParts", "[I", true)
  | 5 => ("PenGuildModel", "shares", "[I", true)
  | 6 => ("PenGuildModel", "rests", "[I", true)
  | 7 => ("PenGuildModel", "writers", "[I", true)
  | 8 => ("PenGuildModel", "bestParts", "[I", true)
  | 9 => ("PenGuildModel", "nowParts", "[I", true)
  | 10 => ("PenGuildModel", "writersMany", "I", false)
  | 11 => ("PenGuildModel", "toReserve", "I", false)
  | 12 => ("PenGuildModel", "saved", "I", false)
  | 13 => ("PenGuildModel", "length", "I", false)
  | 14 => ("PenGuildModel", "thrown", "I", false)
  | 15 => ("PenGuildModel", "state", "I", false)
  | 16 => ("PenGuildModel", "entries", "I", false)
  | 17 => ("PenGuildModel", "used", "I", false)
  | 18 => ("PenGuildModel", "number", "I", false)
  | 19 => ("PenGuildModel", "parts", "I", false)
  | _ => ("PenGuildModel", "h", "J", false)
def tyX7 : Nat → FieldType := fun k => match k with
  | 0 => .array .int
  | 1 => .array .int
  | 2 => .array .int
  | 3 => .array .int
  | 4 => .array .int
  | 5 => .array .int
  | 6 => .array .int
  | 7 => .array .int
  | 8 => .array .int
  | 9 => .array .int
  | 10 => .int
  | 11 => .int
  | 12 => .int
  | 13 => .int
  | 14 => .int
  | 15 => .int
  | 16 => .int
  | 17 => .int
  | 18 => .int
  | 19 => .int
  | _ => .long
abbrev wsX70 : List Cond := u_ws RX7 TX7 21
theorem nmX7 : ∀ a, a < 21 → ∀ b, b < 21 → a ≠ b → (TX7 a).2.1 ≠ (TX7 b).2.1 := by decide +kernel
theorem tyX7_ok : ∀ k, k < 21 → parseFieldDescriptor (TX7 k).2.2.1 = some (tyX7 k) := by decide +kernel
abbrev cX7_init : ByteArray := prog_9_method_1_code
def yX7_init : MethodName := ⟨RX7, "<init>", "()V"⟩
abbrev cX7_thrown : ByteArray := prog_9_method_2_code
def yX7_thrown : MethodName := ⟨RX7, "thrown", "()I"⟩
abbrev cX7_fails : ByteArray := prog_9_method_3_code
def yX7_fails : MethodName := ⟨RX7, "fails", "(I)I"⟩
abbrev cX7_within : ByteArray := prog_9_method_4_code
def yX7_within : MethodName := ⟨RX7, "within", "(III)Z"⟩
abbrev cX7_isPen : ByteArray := prog_9_method_5_code
def yX7_isPen : MethodName := ⟨RX7, "isPen", "(I)Z"⟩
abbrev cX7_isPiece : ByteArray := prog_9_method_6_code
def yX7_isPiece : MethodName := ⟨RX7, "isPiece", "(I)Z"⟩
abbrev cX7_of : ByteArray := prog_9_method_7_code
def yX7_of : MethodName := ⟨RX7, "of", "(II)I"⟩
abbrev cX7_in : ByteArray := prog_9_method_8_code
def yX7_in : MethodName := ⟨RX7, "in", "(II)I"⟩
abbrev cX7_drafts : ByteArray := prog_9_method_9_code
def yX7_drafts : MethodName := ⟨RX7, "drafts", "(II)I"⟩
abbrev cX7_partsOf : ByteArray := prog_9_method_10_code
def yX7_partsOf : MethodName := ⟨RX7, "partsOf", "(II)I"⟩
abbrev cX7_save : ByteArray := prog_9_method_11_code
def yX7_save : MethodName := ⟨RX7, "save", "()V"⟩
abbrev cX7_keep : ByteArray := prog_9_method_12_code
def yX7_keep : MethodName := ⟨RX7, "keep", "()V"⟩
abbrev cX7_bring : ByteArray := prog_9_method_13_code
def yX7_bring : MethodName := ⟨RX7, "bring", "()V"⟩
abbrev cX7_rowSum : ByteArray := prog_9_method_14_code
def yX7_rowSum : MethodName := ⟨RX7, "rowSum", "(I)I"⟩
abbrev cX7_allDrafts : ByteArray := prog_9_method_15_code
def yX7_allDrafts : MethodName := ⟨RX7, "allDrafts", "(I)I"⟩
abbrev cX7_allParts : ByteArray := prog_9_method_16_code
def yX7_allParts : MethodName := ⟨RX7, "allParts", "(I)I"⟩
abbrev cX7_addPen : ByteArray := prog_9_method_17_code
def yX7_addPen : MethodName := ⟨RX7, "addPen", "()I"⟩
abbrev cX7_sold : ByteArray := prog_9_method_18_code
def yX7_sold : MethodName := ⟨RX7, "sold", "(III)I"⟩
abbrev cX7_sell : ByteArray := prog_9_method_19_code
def yX7_sell : MethodName := ⟨RX7, "sell", "(III)I"⟩
abbrev cX7_buyBack : ByteArray := prog_9_method_20_code
def yX7_buyBack : MethodName := ⟨RX7, "buyBack", "(I)I"⟩
abbrev cX7_advance : ByteArray := prog_9_method_21_code
def yX7_advance : MethodName := ⟨RX7, "advance", "(II)I"⟩
abbrev cX7_withdraw : ByteArray := prog_9_method_22_code
def yX7_withdraw : MethodName := ⟨RX7, "withdraw", "(II)I"⟩
abbrev cX7_mostOf : ByteArray := prog_9_method_23_code
def yX7_mostOf : MethodName := ⟨RX7, "mostOf", "(I)I"⟩
abbrev cX7_set : ByteArray := prog_9_method_24_code
def yX7_set : MethodName := ⟨RX7, "set", "(II)I"⟩
abbrev cX7_nextYear : ByteArray := prog_9_method_25_code
def yX7_nextYear : MethodName := ⟨RX7, "nextYear", "()I"⟩
abbrev cX7_order : ByteArray := prog_9_method_26_code
def yX7_order : MethodName := ⟨RX7, "order", "(II)I"⟩
abbrev cX7_draft : ByteArray := prog_9_method_27_code
def yX7_draft : MethodName := ⟨RX7, "draft", "(II)I"⟩
abbrev cX7_revise : ByteArray := prog_9_method_28_code
def yX7_revise : MethodName := ⟨RX7, "revise", "(II)I"⟩
abbrev cX7_isUsed : ByteArray := prog_9_method_29_code
def yX7_isUsed : MethodName := ⟨RX7, "isUsed", "(I)Z"⟩
abbrev cX7_begins : ByteArray := prog_9_method_30_code
def yX7_begins : MethodName := ⟨RX7, "begins", "(I)Z"⟩
abbrev cX7_isOver : ByteArray := prog_9_method_31_code
def yX7_isOver : MethodName := ⟨RX7, "isOver", "()Z"⟩
abbrev cX7_ends : ByteArray := prog_9_method_32_code
def yX7_ends : MethodName := ⟨RX7, "ends", "()V"⟩
abbrev cX7_goesOn : ByteArray := prog_9_method_33_code
def yX7_goesOn : MethodName := ⟨RX7, "goesOn", "(I)Z"⟩
abbrev cX7_takes : ByteArray := prog_9_method_34_code
def yX7_takes : MethodName := ⟨RX7, "takes", "(I)Z"⟩
abbrev cX7_read : ByteArray := prog_9_method_35_code
def yX7_read : MethodName := ⟨RX7, "read", "()I"⟩
abbrev cX7_isList : ByteArray := prog_9_method_36_code
def yX7_isList : MethodName := ⟨RX7, "isList", "()Z"⟩
abbrev cX7_areThere : ByteArray := prog_9_method_37_code
def yX7_areThere : MethodName := ⟨RX7, "areThere", "()Z"⟩
abbrev cX7_share : ByteArray := prog_9_method_38_code
def yX7_share : MethodName := ⟨RX7, "share", "(I)I"⟩
abbrev cX7_reserves : ByteArray := prog_9_method_39_code
def yX7_reserves : MethodName := ⟨RX7, "reserves", "(I)V"⟩
abbrev cX7_income : ByteArray := prog_9_method_40_code
def yX7_income : MethodName := ⟨RX7, "income", "(II)V"⟩
abbrev cX7_split : ByteArray := prog_9_method_41_code
def yX7_split : MethodName := ⟨RX7, "split", "(II)V"⟩
abbrev cX7_capped : ByteArray := prog_9_method_42_code
def yX7_capped : MethodName := ⟨RX7, "capped", "(III)I"⟩
abbrev cX7_comesIn : ByteArray := prog_9_method_43_code
def yX7_comesIn : MethodName := ⟨RX7, "comesIn", "(IIZ)V"⟩
abbrev cX7_accept : ByteArray := prog_9_method_44_code
def yX7_accept : MethodName := ⟨RX7, "accept", "(I)I"⟩
abbrev cX7_killFee : ByteArray := prog_9_method_45_code
def yX7_killFee : MethodName := ⟨RX7, "killFee", "(I)I"⟩
abbrev cX7_kill : ByteArray := prog_9_method_46_code
def yX7_kill : MethodName := ⟨RX7, "kill", "(I)I"⟩
abbrev cX7_royalty : ByteArray := prog_9_method_47_code
def yX7_royalty : MethodName := ⟨RX7, "royalty", "(II)I"⟩
abbrev cX7_canDispute : ByteArray := prog_9_method_48_code
def yX7_canDispute : MethodName := ⟨RX7, "canDispute", "(II)Z"⟩
abbrev cX7_isWriter : ByteArray := prog_9_method_49_code
def yX7_isWriter : MethodName := ⟨RX7, "isWriter", "(I)Z"⟩
abbrev cX7_layWriters : ByteArray := prog_9_method_50_code
def yX7_layWriters : MethodName := ⟨RX7, "layWriters", "(I)V"⟩
abbrev cX7_dispute : ByteArray := prog_9_method_51_code
def yX7_dispute : MethodName := ⟨RX7, "dispute", "(II)I"⟩
abbrev cX7_append : ByteArray := prog_9_method_52_code
def yX7_append : MethodName := ⟨RX7, "append", "(I)I"⟩
abbrev cX7_clearBuffer : ByteArray := prog_9_method_53_code
def yX7_clearBuffer : MethodName := ⟨RX7, "clearBuffer", "()I"⟩
abbrev cX7_firstError : ByteArray := prog_9_method_54_code
def yX7_firstError : MethodName := ⟨RX7, "firstError", "()I"⟩
abbrev cX7_undo : ByteArray := prog_9_method_55_code
def yX7_undo : MethodName := ⟨RX7, "undo", "()I"⟩
abbrev cX7_owns : ByteArray := prog_9_method_56_code
def yX7_owns : MethodName := ⟨RX7, "owns", "(I)I"⟩
abbrev cX7_wrote : ByteArray := prog_9_method_57_code
def yX7_wrote : MethodName := ⟨RX7, "wrote", "(I)I"⟩
abbrev cX7_placeOf : ByteArray := prog_9_method_58_code
def yX7_placeOf : MethodName := ⟨RX7, "placeOf", "(I)I"⟩
abbrev cX7_penNow : ByteArray := prog_9_method_59_code
def yX7_penNow : MethodName := ⟨RX7, "penNow", "(II)I"⟩
abbrev cX7_pen : ByteArray := prog_9_method_60_code
def yX7_pen : MethodName := ⟨RX7, "pen", "(II)I"⟩
abbrev cX7_pensWith : ByteArray := prog_9_method_61_code
def yX7_pensWith : MethodName := ⟨RX7, "pensWith", "(I)I"⟩
abbrev cX7_whoDisputes : ByteArray := prog_9_method_62_code
def yX7_whoDisputes : MethodName := ⟨RX7, "whoDisputes", "(I)I"⟩
abbrev cX7_pieceNow : ByteArray := prog_9_method_63_code
def yX7_pieceNow : MethodName := ⟨RX7, "pieceNow", "(II)I"⟩
abbrev cX7_piece : ByteArray := prog_9_method_64_code
def yX7_piece : MethodName := ⟨RX7, "piece", "(II)I"⟩
abbrev cX7_betweenNow : ByteArray := prog_9_method_65_code
def yX7_betweenNow : MethodName := ⟨RX7, "betweenNow", "(III)I"⟩
abbrev cX7_between : ByteArray := prog_9_method_66_code
def yX7_between : MethodName := ⟨RX7, "between", "(III)I"⟩
abbrev cX7_sumOf : ByteArray := prog_9_method_67_code
def yX7_sumOf : MethodName := ⟨RX7, "sumOf", "(I)I"⟩
abbrev cX7_inStage : ByteArray := prog_9_method_68_code
def yX7_inStage : MethodName := ⟨RX7, "inStage", "(I)I"⟩
abbrev cX7_soldOnes : ByteArray := prog_9_method_69_code
def yX7_soldOnes : MethodName := ⟨RX7, "soldOnes", "()I"⟩
abbrev cX7_counted : ByteArray := prog_9_method_70_code
def yX7_counted : MethodName := ⟨RX7, "counted", "(I)I"⟩
abbrev cX7_count : ByteArray := prog_9_method_71_code
def yX7_count : MethodName := ⟨RX7, "count", "(I)I"⟩
abbrev cX7_setting : ByteArray := prog_9_method_72_code
def yX7_setting : MethodName := ⟨RX7, "setting", "(I)I"⟩
abbrev cX7_paidNow : ByteArray := prog_9_method_73_code
def yX7_paidNow : MethodName := ⟨RX7, "paidNow", "(III)I"⟩
abbrev cX7_ifPaid : ByteArray := prog_9_method_74_code
def yX7_ifPaid : MethodName := ⟨RX7, "ifPaid", "(III)I"⟩
abbrev cX7_writersDrafts : ByteArray := prog_9_method_75_code
def yX7_writersDrafts : MethodName := ⟨RX7, "writersDrafts", "(I)I"⟩
abbrev cX7_layParts : ByteArray := prog_9_method_76_code
def yX7_layParts : MethodName := ⟨RX7, "layParts", "(I)I"⟩
abbrev cX7_unfair : ByteArray := prog_9_method_77_code
def yX7_unfair : MethodName := ⟨RX7, "unfair", "(III)I"⟩
abbrev cX7_layFairest : ByteArray := prog_9_method_78_code
def yX7_layFairest : MethodName := ⟨RX7, "layFairest", "(I)V"⟩
abbrev cX7_fairOf : ByteArray := prog_9_method_79_code
def yX7_fairOf : MethodName := ⟨RX7, "fairOf", "(I)I"⟩
abbrev cX7_fairest : ByteArray := prog_9_method_80_code
def yX7_fairest : MethodName := ⟨RX7, "fairest", "(II)I"⟩
abbrev cX7_bestNow : ByteArray := prog_9_method_81_code
def yX7_bestNow : MethodName := ⟨RX7, "bestNow", "(II)I"⟩
abbrev cX7_bestPiece : ByteArray := prog_9_method_82_code
def yX7_bestPiece : MethodName := ⟨RX7, "bestPiece", "(II)I"⟩
abbrev cX7_spreadNow : ByteArray := prog_9_method_83_code
def yX7_spreadNow : MethodName := ⟨RX7, "spreadNow", "()D"⟩
abbrev cX7_spread : ByteArray := prog_9_method_84_code
def yX7_spread : MethodName := ⟨RX7, "spread", "()D"⟩
abbrev cX7_mix : ByteArray := prog_9_method_85_code
def yX7_mix : MethodName := ⟨RX7, "mix", "(J)V"⟩
abbrev cX7_mixPiece : ByteArray := prog_9_method_86_code
def yX7_mixPiece : MethodName := ⟨RX7, "mixPiece", "(I)V"⟩
abbrev cX7_digest : ByteArray := prog_9_method_87_code
def yX7_digest : MethodName := ⟨RX7, "digest", "()J"⟩
def RJx145de : String := "java/io/Serializable"
def TJx145de : u_T := fun k => match k with
  | _ => ("", "", "", false)
def tyJx145de : Nat → FieldType := fun k => match k with
  | _ => .int
abbrev wsJx145de0 : List Cond := u_ws RJx145de TJx145de 0
theorem nmJx145de : ∀ a, a < 0 → ∀ b, b < 0 → a ≠ b → (TJx145de a).2.1 ≠ (TJx145de b).2.1 := by decide +kernel
theorem tyJx145de_ok : ∀ k, k < 0 → parseFieldDescriptor (TJx145de k).2.2.1 = some (tyJx145de k) := by decide +kernel
def RJx8e188 : String := "java/lang/Cloneable"
def TJx8e188 : u_T := fun k => match k with
  | _ => ("", "", "", false)
def tyJx8e188 : Nat → FieldType := fun k => match k with
  | _ => .int
abbrev wsJx8e1880 : List Cond := u_ws RJx8e188 TJx8e188 0
theorem nmJx8e188 : ∀ a, a < 0 → ∀ b, b < 0 → a ≠ b → (TJx8e188 a).2.1 ≠ (TJx8e188 b).2.1 := by decide +kernel
theorem tyJx8e188_ok : ∀ k, k < 0 → parseFieldDescriptor (TJx8e188 k).2.2.1 = some (tyJx8e188 k) := by decide +kernel
def RJxb160c : String := "java/lang/Comparable"
def TJxb160c : u_T := fun k => match k with
  | _ => ("", "", "", false)
def tyJxb160c : Nat → FieldType := fun k => match k with
  | _ => .int
abbrev wsJxb160c0 : List Cond := u_ws RJxb160c TJxb160c 0
theorem nmJxb160c : ∀ a, a < 0 → ∀ b, b < 0 → a ≠ b → (TJxb160c a).2.1 ≠ (TJxb160c b).2.1 := by decide +kernel
theorem tyJxb160c_ok : ∀ k, k < 0 → parseFieldDescriptor (TJxb160c k).2.2.1 = some (tyJxb160c k) := by decide +kernel
def RJxe99ae : String := "java/lang/Double"
def TJxe99ae : u_T := fun k => match k with
  | _ => ("", "", "", false)
def tyJxe99ae : Nat → FieldType := fun k => match k with
  | _ => .int
abbrev wsJxe99ae0 : List Cond := u_ws RJxe99ae TJxe99ae 0
theorem nmJxe99ae : ∀ a, a < 0 → ∀ b, b < 0 → a ≠ b → (TJxe99ae a).2.1 ≠ (TJxe99ae b).2.1 := by decide +kernel
theorem tyJxe99ae_ok : ∀ k, k < 0 → parseFieldDescriptor (TJxe99ae k).2.2.1 = some (tyJxe99ae k) := by decide +kernel
abbrev cJxe99ae_isNaN_b9ae7 : ByteArray := prog_11_method_6_code
def yJxe99ae_isNaN_b9ae7 : MethodName := ⟨RJxe99ae, "isNaN", "(D)Z"⟩
abbrev cJxe99ae_doubleToLongBits_ccdee : ByteArray := prog_11_method_23_code
def yJxe99ae_doubleToLongBits_ccdee : MethodName := ⟨RJxe99ae, "doubleToLongBits", "(D)J"⟩
def RJ9 : String := "java/lang/Math"
def TJ9 : u_T := fun k => match k with
  | _ => ("", "", "", false)
def tyJ9 : Nat → FieldType := fun k => match k with
  | _ => .int
abbrev wsJ90 : List Cond := u_ws RJ9 TJ9 0
theorem nmJ9 : ∀ a, a < 0 → ∀ b, b < 0 → a ≠ b → (TJ9 a).2.1 ≠ (TJ9 b).2.1 := by decide +kernel
theorem tyJ9_ok : ∀ k, k < 0 → parseFieldDescriptor (TJ9 k).2.2.1 = some (tyJ9 k) := by decide +kernel
abbrev cJ9_abs_0f7a4 : ByteArray := prog_16_method_59_code
def yJ9_abs_0f7a4 : MethodName := ⟨RJ9, "abs", "(I)I"⟩
abbrev cJ9_max_7cf53 : ByteArray := prog_16_method_65_code
def yJ9_max_7cf53 : MethodName := ⟨RJ9, "max", "(II)I"⟩
abbrev cJ9_min_7cf53 : ByteArray := prog_16_method_69_code
def yJ9_min_7cf53 : MethodName := ⟨RJ9, "min", "(II)I"⟩
def RJxd2413 : String := "java/lang/Number"
def TJxd2413 : u_T := fun k => match k with
  | _ => ("", "", "", false)
def tyJxd2413 : Nat → FieldType := fun k => match k with
  | _ => .int
abbrev wsJxd24130 : List Cond := u_ws RJxd2413 TJxd2413 0
theorem nmJxd2413 : ∀ a, a < 0 → ∀ b, b < 0 → a ≠ b → (TJxd2413 a).2.1 ≠ (TJxd2413 b).2.1 := by decide +kernel
theorem tyJxd2413_ok : ∀ k, k < 0 → parseFieldDescriptor (TJxd2413 k).2.2.1 = some (tyJxd2413 k) := by decide +kernel
def RJ0 : String := "java/lang/String"
def TJ0 : u_T := fun k => match k with
  | _ => ("", "", "", false)
def tyJ0 : Nat → FieldType := fun k => match k with
  | _ => .int
abbrev wsJ00 : List Cond := u_ws RJ0 TJ0 0
theorem nmJ0 : ∀ a, a < 0 → ∀ b, b < 0 → a ≠ b → (TJ0 a).2.1 ≠ (TJ0 b).2.1 := by decide +kernel
theorem tyJ0_ok : ∀ k, k < 0 → parseFieldDescriptor (TJ0 k).2.2.1 = some (tyJ0 k) := by decide +kernel
def RJ10 : String := "java/lang/System"
def TJ10 : u_T := fun k => match k with
  | _ => ("", "", "", false)
def tyJ10 : Nat → FieldType := fun k => match k with
  | _ => .int
abbrev wsJ100 : List Cond := u_ws RJ10 TJ10 0
theorem nmJ10 : ∀ a, a < 0 → ∀ b, b < 0 → a ≠ b → (TJ10 a).2.1 ≠ (TJ10 b).2.1 := by decide +kernel
theorem tyJ10_ok : ∀ k, k < 0 → parseFieldDescriptor (TJ10 k).2.2.1 = some (tyJ10 k) := by decide +kernel
def RJxfd54e : String := "java/lang/constant/Constable"
def TJxfd54e : u_T := fun k => match k with
  | _ => ("", "", "", false)
def tyJxfd54e : Nat → FieldType := fun k => match k with
  | _ => .int
abbrev wsJxfd54e0 : List Cond := u_ws RJxfd54e TJxfd54e 0
theorem nmJxfd54e : ∀ a, a < 0 → ∀ b, b < 0 → a ≠ b → (TJxfd54e a).2.1 ≠ (TJxfd54e b).2.1 := by decide +kernel
theorem tyJxfd54e_ok : ∀ k, k < 0 → parseFieldDescriptor (TJxfd54e k).2.2.1 = some (tyJxfd54e k) := by decide +kernel
def RJx3cf43 : String := "java/lang/constant/ConstantDesc"
def TJx3cf43 : u_T := fun k => match k with
  | _ => ("", "", "", false)
def tyJx3cf43 : Nat → FieldType := fun k => match k with
  | _ => .int
abbrev wsJx3cf430 : List Cond := u_ws RJx3cf43 TJx3cf43 0
theorem nmJx3cf43 : ∀ a, a < 0 → ∀ b, b < 0 → a ≠ b → (TJx3cf43 a).2.1 ≠ (TJx3cf43 b).2.1 := by decide +kernel
theorem tyJx3cf43_ok : ∀ k, k < 0 → parseFieldDescriptor (TJx3cf43 k).2.2.1 = some (tyJx3cf43 k) := by decide +kernel
def RJ7 : String := "java/util/Arrays"
def TJ7 : u_T := fun k => match k with
  | _ => ("", "", "", false)
def tyJ7 : Nat → FieldType := fun k => match k with
  | _ => .int
abbrev wsJ70 : List Cond := u_ws RJ7 TJ7 0
theorem nmJ7 : ∀ a, a < 0 → ∀ b, b < 0 → a ≠ b → (TJ7 a).2.1 ≠ (TJ7 b).2.1 := by decide +kernel
theorem tyJ7_ok : ∀ k, k < 0 → parseFieldDescriptor (TJ7 k).2.2.1 = some (tyJ7 k) := by decide +kernel
abbrev cJ7_fill_53178 : ByteArray := prog_22_method_103_code
def yJ7_fill_53178 : MethodName := ⟨RJ7, "fill", "([II)V"⟩
def RL : String := "PenGuildLaw"
abbrev cL_addPen : ByteArray := method_3_code
def yL_addPen : MethodName := ⟨RL, "addPen", "(LPenGuild;[J)I"⟩
abbrev cL_sell : ByteArray := method_4_code
def yL_sell : MethodName := ⟨RL, "sell", "(LPenGuild;III[J)I"⟩
abbrev cL_buyBack : ByteArray := method_5_code
def yL_buyBack : MethodName := ⟨RL, "buyBack", "(LPenGuild;I[J)I"⟩
abbrev cL_advance : ByteArray := method_6_code
def yL_advance : MethodName := ⟨RL, "advance", "(LPenGuild;II[J)I"⟩
abbrev cL_withdraw : ByteArray := method_7_code
def yL_withdraw : MethodName := ⟨RL, "withdraw", "(LPenGuild;II[J)I"⟩
abbrev cL_set : ByteArray := method_8_code
def yL_set : MethodName := ⟨RL, "set", "(LPenGuild;II[J)I"⟩
abbrev cL_order : ByteArray := method_9_code
def yL_order : MethodName := ⟨RL, "order", "(LPenGuild;II[J)I"⟩
abbrev cL_draft : ByteArray := method_10_code
def yL_draft : MethodName := ⟨RL, "draft", "(LPenGuild;II[J)I"⟩
abbrev cL_revise : ByteArray := method_11_code
def yL_revise : MethodName := ⟨RL, "revise", "(LPenGuild;II[J)I"⟩
abbrev cL_share : ByteArray := method_12_code
def yL_share : MethodName := ⟨RL, "share", "(LPenGuild;I[J)I"⟩
abbrev cL_accept : ByteArray := method_13_code
def yL_accept : MethodName := ⟨RL, "accept", "(LPenGuild;I[J)I"⟩
abbrev cL_kill : ByteArray := method_14_code
def yL_kill : MethodName := ⟨RL, "kill", "(LPenGuild;I[J)I"⟩
abbrev cL_royalty : ByteArray := method_15_code
def yL_royalty : MethodName := ⟨RL, "royalty", "(LPenGuild;II[J)I"⟩
abbrev cL_dispute : ByteArray := method_16_code
def yL_dispute : MethodName := ⟨RL, "dispute", "(LPenGuild;II[J)I"⟩
abbrev cL_append : ByteArray := method_17_code
def yL_append : MethodName := ⟨RL, "append", "(LPenGuild;I[J)I"⟩
abbrev cL_undo : ByteArray := method_18_code
def yL_undo : MethodName := ⟨RL, "undo", "(LPenGuild;[J)I"⟩
abbrev cL_pen : ByteArray := method_19_code
def yL_pen : MethodName := ⟨RL, "pen", "(LPenGuild;II[J)I"⟩
abbrev cL_piece : ByteArray := method_20_code
def yL_piece : MethodName := ⟨RL, "piece", "(LPenGuild;II[J)I"⟩
abbrev cL_between : ByteArray := method_21_code
def yL_between : MethodName := ⟨RL, "between", "(LPenGuild;III[J)I"⟩
abbrev cL_count : ByteArray := method_22_code
def yL_count : MethodName := ⟨RL, "count", "(LPenGuild;I[J)I"⟩
abbrev cL_setting : ByteArray := method_23_code
def yL_setting : MethodName := ⟨RL, "setting", "(LPenGuild;I[J)I"⟩
abbrev cL_ifPaid : ByteArray := method_24_code
def yL_ifPaid : MethodName := ⟨RL, "ifPaid", "(LPenGuild;III[J)I"⟩
abbrev cL_fairest : ByteArray := method_25_code
def yL_fairest : MethodName := ⟨RL, "fairest", "(LPenGuild;II[J)I"⟩
abbrev cL_bestPiece : ByteArray := method_26_code
def yL_bestPiece : MethodName := ⟨RL, "bestPiece", "(LPenGuild;II[J)I"⟩
abbrev cL_law : ByteArray := code
def yL_law : MethodName := ⟨RL, "law", "([I)Z"⟩
def wsJ7_fill_53178 : List Cond := .code yJ7_fill_53178 cJ7_fill_53178 4 none :: ([])
def wsJxe99ae_isNaN_b9ae7 : List Cond := .code yJxe99ae_isNaN_b9ae7 cJxe99ae_isNaN_b9ae7 2 (some .boolean) :: ([])
def wsJxe99ae_doubleToLongBits_ccdee : List Cond := .code yJxe99ae_doubleToLongBits_ccdee cJxe99ae_doubleToLongBits_ccdee 2 (some .long) :: ([.methodLink RJxe99ae 134 ⟨"java/lang/Double", "doubleToRawLongBits", "(D)J"⟩, .native ⟨"java/lang/Double", "doubleToRawLongBits", "(D)J"⟩, .static ⟨"java/lang/Double", "doubleToRawLongBits", "(D)J"⟩, .initialized "java/lang/Double", .constantLong RJxe99ae 137 (9221120237041090560), .methodLink RJxe99ae 122 yJxe99ae_isNaN_b9ae7, .static yJxe99ae_isNaN_b9ae7, .initialized RJxe99ae, .code yJxe99ae_isNaN_b9ae7 cJxe99ae_isNaN_b9ae7 2 (some .boolean)])
def wsJ9_abs_0f7a4 : List Cond := .code yJ9_abs_0f7a4 cJ9_abs_0f7a4 1 (some .int) :: ([])
def wsJ9_max_7cf53 : List Cond := .code yJ9_max_7cf53 cJ9_max_7cf53 2 (some .int) :: ([])
def wsJ9_min_7cf53 : List Cond := .code yJ9_min_7cf53 cJ9_min_7cf53 2 (some .int) :: ([])
theorem inJx145de : ∀ w ∈ wsJx145de0, w ∈ lw_tbl := by decide +kernel
theorem inJx8e188 : ∀ w ∈ wsJx8e1880, w ∈ lw_tbl := by decide +kernel
theorem inJxb160c : ∀ w ∈ wsJxb160c0, w ∈ lw_tbl := by decide +kernel
theorem inJxe99ae : ∀ w ∈ wsJxe99ae0, w ∈ lw_tbl := by decide +kernel
theorem inJ9 : ∀ w ∈ wsJ90, w ∈ lw_tbl := by decide +kernel
theorem inJxd2413 : ∀ w ∈ wsJxd24130, w ∈ lw_tbl := by decide +kernel
theorem inJ0 : ∀ w ∈ wsJ00, w ∈ lw_tbl := by decide +kernel
theorem inJ10 : ∀ w ∈ wsJ100, w ∈ lw_tbl := by decide +kernel
theorem inJxfd54e : ∀ w ∈ wsJxfd54e0, w ∈ lw_tbl := by decide +kernel
theorem inJx3cf43 : ∀ w ∈ wsJx3cf430, w ∈ lw_tbl := by decide +kernel
theorem inJ7 : ∀ w ∈ wsJ70, w ∈ lw_tbl := by decide +kernel
theorem dJxe99ae_isNaN_b9ae7_0 : decode cJxe99ae_isNaN_b9ae7 0 = .ok (.dload_n 0, 1) := by decide +kernel
theorem dJxe99ae_isNaN_b9ae7_1 : decode cJxe99ae_isNaN_b9ae7 1 = .ok (.dload_n 0, 1) := by decide +kernel
theorem dJxe99ae_isNaN_b9ae7_2 : decode cJxe99ae_isNaN_b9ae7 2 = .ok (.dcmp .l, 1) := by decide +kernel
theorem dJxe99ae_isNaN_b9ae7_3 : decode cJxe99ae_isNaN_b9ae7 3 = .ok (.ifCond .eq 7, 3) := by decide +kernel
theorem dJxe99ae_isNaN_b9ae7_6 : decode cJxe99ae_isNaN_b9ae7 6 = .ok (.iconst 1, 1) := by decide +kernel
theorem dJxe99ae_isNaN_b9ae7_7 : decode cJxe99ae_isNaN_b9ae7 7 = .ok (.goto 4, 3) := by decide +kernel
theorem dJxe99ae_isNaN_b9ae7_10 : decode cJxe99ae_isNaN_b9ae7 10 = .ok (.iconst 0, 1) := by decide +kernel
theorem dJxe99ae_isNaN_b9ae7_11 : decode cJxe99ae_isNaN_b9ae7 11 = .ok (.ireturn, 1) := by decide +kernel
set_option maxRecDepth 20000 in
theorem ggJxe99ae_doubleToLongBits_ccdee_Jxe99ae_isNaN_b9ae7 : GoodIn wsJxe99ae_doubleToLongBits_ccdee wsJxe99ae_isNaN_b9ae7 := goodIn_r _ [9] (by decide +kernel) (by decide +kernel)
set_option maxRecDepth 20000 in
theorem gJxe99ae_doubleToLongBits_ccdee_Jxe99ae_isNaN_b9ae7 : GoodIn wsJxe99ae_doubleToLongBits_ccdee (va_wsS RJxe99ae 122 yJxe99ae_isNaN_b9ae7 wsJxe99ae_isNaN_b9ae7) := goodIn_app (goodIn_of _ (by decide +kernel)) ggJxe99ae_doubleToLongBits_ccdee_Jxe99ae_isNaN_b9ae7
theorem dJxe99ae_doubleToLongBits_ccdee_0 : decode cJxe99ae_doubleToLongBits_ccdee 0 = .ok (.dload_n 0, 1) := by decide +kernel
theorem dJxe99ae_doubleToLongBits_ccdee_1 : decode cJxe99ae_doubleToLongBits_ccdee 1 = .ok (.invokestatic 122, 3) := by decide +kernel
theorem dJxe99ae_doubleToLongBits_ccdee_4 : decode cJxe99ae_doubleToLongBits_ccdee 4 = .ok (.ifCond .ne 8, 3) := by decide +kernel
theorem dJxe99ae_doubleToLongBits_ccdee_7 : decode cJxe99ae_doubleToLongBits_ccdee 7 = .ok (.dload_n 0, 1) := by decide +kernel
theorem dJxe99ae_doubleToLongBits_ccdee_8 : decode cJxe99ae_doubleToLongBits_ccdee 8 = .ok (.invokestatic 134, 3) := by decide +kernel
theorem dJxe99ae_doubleToLongBits_ccdee_11 : decode cJxe99ae_doubleToLongBits_ccdee 11 = .ok (.lreturn, 1) := by decide +kernel
theorem dJxe99ae_doubleToLongBits_ccdee_12 : decode cJxe99ae_doubleToLongBits_ccdee 12 = .ok (.ldc2_w 137, 3) := by decide +kernel
theorem dJxe99ae_doubleToLongBits_ccdee_15 : decode cJxe99ae_doubleToLongBits_ccdee 15 = .ok (.lreturn, 1) := by decide +kernel
theorem dJ9_abs_0f7a4_0 : decode cJ9_abs_0f7a4 0 = .ok (.iload_n 0, 1) := by decide +kernel
theorem dJ9_abs_0f7a4_1 : decode cJ9_abs_0f7a4 1 = .ok (.ifCond .ge 8, 3) := by decide +kernel
theorem dJ9_abs_0f7a4_4 : decode cJ9_abs_0f7a4 4 = .ok (.iload_n 0, 1) := by decide +kernel
theorem dJ9_abs_0f7a4_5 : decode cJ9_abs_0f7a4 5 = .ok (.ineg, 1) := by decide +kernel
theorem dJ9_abs_0f7a4_6 : decode cJ9_abs_0f7a4 6 = .ok (.goto 4, 3) := by decide +kernel
theorem dJ9_abs_0f7a4_9 : decode cJ9_abs_0f7a4 9 = .ok (.iload_n 0, 1) := by decide +kernel
theorem dJ9_abs_0f7a4_10 : decode cJ9_abs_0f7a4 10 = .ok (.ireturn, 1) := by decide +kernel
theorem dJ9_max_7cf53_0 : decode cJ9_max_7cf53 0 = .ok (.iload_n 0, 1) := by decide +kernel
theorem dJ9_max_7cf53_1 : decode cJ9_max_7cf53 1 = .ok (.iload_n 1, 1) := by decide +kernel
theorem dJ9_max_7cf53_2 : decode cJ9_max_7cf53 2 = .ok (.if_icmp .lt 7, 3) := by decide +kernel
theorem dJ9_max_7cf53_5 : decode cJ9_max_7cf53 5 = .ok (.iload_n 0, 1) := by decide +kernel
theorem dJ9_max_7cf53_6 : decode cJ9_max_7cf53 6 = .ok (.goto 4, 3) := by decide +kernel
theorem dJ9_max_7cf53_9 : decode cJ9_max_7cf53 9 = .ok (.iload_n 1, 1) := by decide +kernel
theorem dJ9_max_7cf53_10 : decode cJ9_max_7cf53 10 = .ok (.ireturn, 1) := by decide +kernel
theorem dJ9_min_7cf53_0 : decode cJ9_min_7cf53 0 = .ok (.iload_n 0, 1) := by decide +kernel
theorem dJ9_min_7cf53_1 : decode cJ9_min_7cf53 1 = .ok (.iload_n 1, 1) := by decide +kernel
theorem dJ9_min_7cf53_2 : decode cJ9_min_7cf53 2 = .ok (.if_icmp .gt 7, 3) := by decide +kernel
theorem dJ9_min_7cf53_5 : decode cJ9_min_7cf53 5 = .ok (.iload_n 0, 1) := by decide +kernel
theorem dJ9_min_7cf53_6 : decode cJ9_min_7cf53 6 = .ok (.goto 4, 3) := by decide +kernel
theorem dJ9_min_7cf53_9 : decode cJ9_min_7cf53 9 = .ok (.iload_n 1, 1) := by decide +kernel
theorem dJ9_min_7cf53_10 : decode cJ9_min_7cf53 10 = .ok (.ireturn, 1) := by decide +kernel
theorem dJ7_fill_53178_0 : decode cJ7_fill_53178 0 = .ok (.iconst 0, 1) := by decide +kernel
theorem dJ7_fill_53178_1 : decode cJ7_fill_53178 1 = .ok (.istore_n 2, 1) := by decide +kernel
theorem dJ7_fill_53178_2 : decode cJ7_fill_53178 2 = .ok (.aload_n 0, 1) := by decide +kernel
theorem dJ7_fill_53178_3 : decode cJ7_fill_53178 3 = .ok (.arraylength, 1) := by decide +kernel
theorem dJ7_fill_53178_4 : decode cJ7_fill_53178 4 = .ok (.istore_n 3, 1) := by decide +kernel
theorem dJ7_fill_53178_5 : decode cJ7_fill_53178 5 = .ok (.iload_n 2, 1) := by decide +kernel
theorem dJ7_fill_53178_6 : decode cJ7_fill_53178 6 = .ok (.iload_n 3, 1) := by decide +kernel
theorem dJ7_fill_53178_7 : decode cJ7_fill_53178 7 = .ok (.if_icmp .ge 13, 3) := by decide +kernel
theorem dJ7_fill_53178_10 : decode cJ7_fill_53178 10 = .ok (.aload_n 0, 1) := by decide +kernel
theorem dJ7_fill_53178_11 : decode cJ7_fill_53178 11 = .ok (.iload_n 2, 1) := by decide +kernel
theorem dJ7_fill_53178_12 : decode cJ7_fill_53178 12 = .ok (.iload_n 1, 1) := by decide +kernel
theorem dJ7_fill_53178_13 : decode cJ7_fill_53178 13 = .ok (.iastore, 1) := by decide +kernel
theorem dJ7_fill_53178_14 : decode cJ7_fill_53178 14 = .ok (.iinc 2 1, 3) := by decide +kernel
theorem dJ7_fill_53178_17 : decode cJ7_fill_53178 17 = .ok (.goto (-12), 3) := by decide +kernel
theorem dJ7_fill_53178_20 : decode cJ7_fill_53178 20 = .ok (.return_, 1) := by decide +kernel
abbrev vwCl : List vw_C := [(RX0, TX0, 6), (RX1, TX1, 6), (RX2, TX2, 7), (RX3, TX3, 7), (RX4, TX4, 9), (RX5, TX5, 8), (RX6, TX6, 9), (RX7, TX7, 21)]
end
section
theorem dL_addPen_0 : decode cL_addPen 0 = .ok (.aload_n 1, 1) := by decide +kernel
theorem dL_addPen_1 : decode cL_addPen 1 = .ok (.iconst 0, 1) := by decide +kernel
theorem dL_addPen_2 : decode cL_addPen 2 = .ok (.aload_n 0, 1) := by decide +kernel
theorem dL_addPen_3 : decode cL_addPen 3 = .ok (.invokevirtual 7, 3) := by decide +kernel
theorem dL_addPen_6 : decode cL_addPen 6 = .ok (.i2l, 1) := by decide +kernel
theorem dL_addPen_7 : decode cL_addPen 7 = .ok (.lastore, 1) := by decide +kernel
theorem dL_addPen_8 : decode cL_addPen 8 = .ok (.goto 6, 3) := by decide +kernel
theorem dL_addPen_11 : decode cL_addPen 11 = .ok (.astore_n 2, 1) := by decide +kernel
theorem dL_addPen_12 : decode cL_addPen 12 = .ok (.iconst 1, 1) := by decide +kernel
theorem dL_addPen_13 : decode cL_addPen 13 = .ok (.ireturn, 1) := by decide +kernel
theorem dL_addPen_14 : decode cL_addPen 14 = .ok (.iconst 0, 1) := by decide +kernel
theorem dL_addPen_15 : decode cL_addPen 15 = .ok (.ireturn, 1) := by decide +kernel
theorem dL_sell_0 : decode cL_sell 0 = .ok (.aload 4, 2) := by decide +kernel
theorem dL_sell_2 : decode cL_sell 2 = .ok (.iconst 0, 1) := by decide +kernel
theorem dL_sell_3 : decode cL_sell 3 = .ok (.aload_n 0, 1) := by decide +kernel
theorem dL_sell_4 : decode cL_sell 4 = .ok (.iload_n 1, 1) := by decide +kernel
theorem dL_sell_5 : decode cL_sell 5 = .ok (.iload_n 2, 1) := by decide +kernel
theorem dL_sell_6 : decode cL_sell 6 = .ok (.iload_n 3, 1) := by decide +kernel
theorem dL_sell_7 : decode cL_sell 7 = .ok (.invokevirtual 15, 3) := by decide +kernel
theorem dL_sell_10 : decode cL_sell 10 = .ok (.i2l, 1) := by decide +kernel
theorem dL_sell_11 : decode cL_sell 11 = .ok (.lastore, 1) := by decide +kernel
theorem dL_sell_12 : decode cL_sell 12 = .ok (.goto 15, 3) := by decide +kernel
theorem dL_sell_15 : decode cL_sell 15 = .ok (.astore 5, 2) := by decide +kernel
theorem dL_sell_17 : decode cL_sell 17 = .ok (.iconst 1, 1) := by decide +kernel
theorem dL_sell_18 : decode cL_sell 18 = .ok (.ireturn, 1) := by decide +kernel
theorem dL_sell_19 : decode cL_sell 19 = .ok (.astore 5, 2) := by decide +kernel
theorem dL_sell_21 : decode cL_sell 21 = .ok (.iconst 2, 1) := by decide +kernel
theorem dL_sell_22 : decode cL_sell 22 = .ok (.ireturn, 1) := by decide +kernel
theorem dL_sell_23 : decode cL_sell 23 = .ok (.astore 5, 2) := by decide +kernel
theorem dL_sell_25 : decode cL_sell 25 = .ok (.iconst 3, 1) := by decide +kernel
theorem dL_sell_26 : decode cL_sell 26 = .ok (.ireturn, 1) := by decide +kernel
theorem dL_sell_27 : decode cL_sell 27 = .ok (.iconst 0, 1) := by decide +kernel
theorem dL_sell_28 : decode cL_sell 28 = .ok (.ireturn, 1) := by decide +kernel
theorem dL_buyBack_0 : decode cL_buyBack 0 = .ok (.aload_n 2, 1) := by decide +kernel
theorem dL_buyBack_1 : decode cL_buyBack 1 = .ok (.iconst 0, 1) := by decide +kernel
theorem dL_buyBack_2 : decode cL_buyBack 2 = .ok (.aload_n 0, 1) := by decide +kernel
theorem dL_buyBack_3 : decode cL_buyBack 3 = .ok (.iload_n 1, 1) := by decide +kernel
theorem dL_buyBack_4 : decode cL_buyBack 4 = .ok (.invokevirtual 23, 3) := by decide +kernel
theorem dL_buyBack_7 : decode cL_buyBack 7 = .ok (.i2l, 1) := by decide +kernel
theorem dL_buyBack_8 : decode cL_buyBack 8 = .ok (.lastore, 1) := by decide +kernel
theorem dL_buyBack_9 : decode cL_buyBack 9 = .ok (.goto 9, 3) := by decide +kernel
theorem dL_buyBack_12 : decode cL_buyBack 12 = .ok (.astore_n 3, 1) := by decide +kernel
theorem dL_buyBack_13 : decode cL_buyBack 13 = .ok (.iconst 1, 1) := by decide +kernel
theorem dL_buyBack_14 : decode cL_buyBack 14 = .ok (.ireturn, 1) := by decide +kernel
theorem dL_buyBack_15 : decode cL_buyBack 15 = .ok (.astore_n 3, 1) := by decide +kernel
theorem dL_buyBack_16 : decode cL_buyBack 16 = .ok (.iconst 2, 1) := by decide +kernel
theorem dL_buyBack_17 : decode cL_buyBack 17 = .ok (.ireturn, 1) := by decide +kernel
theorem dL_buyBack_18 : decode cL_buyBack 18 = .ok (.iconst 0, 1) := by decide +kernel
theorem dL_buyBack_19 : decode cL_buyBack 19 = .ok (.ireturn, 1) := by decide +kernel
theorem dL_advance_0 : decode cL_advance 0 = .ok (.aload_n 3, 1) := by decide +kernel
theorem dL_advance_1 : decode cL_advance 1 = .ok (.iconst 0, 1) := by decide +kernel
theorem dL_advance_2 : decode cL_advance 2 = .ok (.aload_n 0, 1) := by decide +kernel
theorem dL_advance_3 : decode cL_advance 3 = .ok (.iload_n 1, 1) := by decide +kernel
theorem dL_advance_4 : decode cL_advance 4 = .ok (.iload_n 2, 1) := by decide +kernel
theorem dL_advance_5 : decode cL_advance 5 = .ok (.invokevirtual 27, 3) := by decide +kernel
theorem dL_advance_8 : decode cL_advance 8 = .ok (.i2l, 1) := by decide +kernel
theorem dL_advance_9 : decode cL_advance 9 = .ok (.lastore, 1) := by decide +kernel
theorem dL_advance_10 : decode cL_advance 10 = .ok (.goto 15, 3) := by decide +kernel
theorem dL_advance_13 : decode cL_advance 13 = .ok (.astore 4, 2) := by decide +kernel
theorem dL_advance_15 : decode cL_advance 15 = .ok (.iconst 1, 1) := by decide +kernel
theorem dL_advance_16 : decode cL_advance 16 = .ok (.ireturn, 1) := by decide +kernel
theorem dL_advance_17 : decode cL_advance 17 = .ok (.astore 4, 2) := by decide +kernel
theorem dL_advance_19 : decode cL_advance 19 = .ok (.iconst 2, 1) := by decide +kernel
theorem dL_advance_20 : decode cL_advance 20 = .ok (.ireturn, 1) := by decide +kernel
theorem dL_advance_21 : decode cL_advance 21 = .ok (.astore 4, 2) := by decide +kernel
theorem dL_advance_23 : decode cL_advance 23 = .ok (.iconst 3, 1) := by decide +kernel
theorem dL_advance_24 : decode cL_advance 24 = .ok (.ireturn, 1) := by decide +kernel
theorem dL_advance_25 : decode cL_advance 25 = .ok (.iconst 0, 1) := by decide +kernel
theorem dL_advance_26 : decode cL_advance 26 = .ok (.ireturn, 1) := by decide +kernel
theorem dL_withdraw_0 : decode cL_withdraw 0 = .ok (.aload_n 3, 1) := by decide +kernel
theorem dL_withdraw_1 : decode cL_withdraw 1 = .ok (.iconst 0, 1) := by decide +kernel
theorem dL_withdraw_2 : decode cL_withdraw 2 = .ok (.aload_n 0, 1) := by decide +kernel
theorem dL_withdraw_3 : decode cL_withdraw 3 = .ok (.iload_n 1, 1) := by decide +kernel
theorem dL_withdraw_4 : decode cL_withdraw 4 = .ok (.iload_n 2, 1) := by decide +kernel
theorem dL_withdraw_5 : decode cL_withdraw 5 = .ok (.invokevirtual 31, 3) := by decide +kernel
theorem dL_withdraw_8 : decode cL_withdraw 8 = .ok (.i2l, 1) := by decide +kernel
theorem dL_withdraw_9 : decode cL_withdraw 9 = .ok (.lastore, 1) := by decide +kernel
theorem dL_withdraw_10 : decode cL_withdraw 10 = .ok (.goto 15, 3) := by decide +kernel
theorem dL_withdraw_13 : decode cL_withdraw 13 = .ok (.astore 4, 2) := by decide +kernel
theorem dL_withdraw_15 : decode cL_withdraw 15 = .ok (.iconst 1, 1) := by decide +kernel
theorem dL_withdraw_16 : decode cL_withdraw 16 = .ok (.ireturn, 1) := by decide +kernel
theorem dL_withdraw_17 : decode cL_withdraw 17 = .ok (.astore 4, 2) := by decide +kernel
theorem dL_withdraw_19 : decode cL_withdraw 19 = .ok (.iconst 2, 1) := by decide +kernel
theorem dL_withdraw_20 : decode cL_withdraw 20 = .ok (.ireturn, 1) := by decide +kernel
theorem dL_withdraw_21 : decode cL_withdraw 21 = .ok (.astore 4, 2) := by decide +kernel
theorem dL_withdraw_23 : decode cL_withdraw 23 = .ok (.iconst 3, 1) := by decide +kernel
theorem dL_withdraw_24 : decode cL_withdraw 24 = .ok (.ireturn, 1) := by decide +kernel
theorem dL_withdraw_25 : decode cL_withdraw 25 = .ok (.iconst 0, 1) := by decide +kernel
theorem dL_withdraw_26 : decode cL_withdraw 26 = .ok (.ireturn, 1) := by decide +kernel
theorem dL_set_0 : decode cL_set 0 = .ok (.aload_n 3, 1) := by decide +kernel
theorem dL_set_1 : decode cL_set 1 = .ok (.iconst 0, 1) := by decide +kernel
theorem dL_set_2 : decode cL_set 2 = .ok (.aload_n 0, 1) := by decide +kernel
theorem dL_set_3 : decode cL_set 3 = .ok (.iload_n 1, 1) := by decide +kernel
theorem dL_set_4 : decode cL_set 4 = .ok (.iload_n 2, 1) := by decide +kernel
theorem dL_set_5 : decode cL_set 5 = .ok (.invokevirtual 34, 3) := by decide +kernel
theorem dL_set_8 : decode cL_set 8 = .ok (.i2l, 1) := by decide +kernel
theorem dL_set_9 : decode cL_set 9 = .ok (.lastore, 1) := by decide +kernel
theorem dL_set_10 : decode cL_set 10 = .ok (.goto 11, 3) := by decide +kernel
theorem dL_set_13 : decode cL_set 13 = .ok (.astore 4, 2) := by decide +kernel
theorem dL_set_15 : decode cL_set 15 = .ok (.iconst 1, 1) := by decide +kernel
theorem dL_set_16 : decode cL_set 16 = .ok (.ireturn, 1) := by decide +kernel
theorem dL_set_17 : decode cL_set 17 = .ok (.astore 4, 2) := by decide +kernel
theorem dL_set_19 : decode cL_set 19 = .ok (.iconst 2, 1) := by decide +kernel
theorem dL_set_20 : decode cL_set 20 = .ok (.ireturn, 1) := by decide +kernel
theorem dL_set_21 : decode cL_set 21 = .ok (.iconst 0, 1) := by decide +kernel
theorem dL_set_22 : decode cL_set 22 = .ok (.ireturn, 1) := by decide +kernel
theorem dL_order_0 : decode cL_order 0 = .ok (.aload_n 3, 1) := by decide +kernel
theorem dL_order_1 : decode cL_order 1 = .ok (.iconst 0, 1) := by decide +kernel
theorem dL_order_2 : decode cL_order 2 = .ok (.aload_n 0, 1) := by decide +kernel
theorem dL_order_3 : decode cL_order 3 = .ok (.iload_n 1, 1) := by decide +kernel
theorem dL_order_4 : decode cL_order 4 = .ok (.iload_n 2, 1) := by decide +kernel
theorem dL_order_5 : decode cL_order 5 = .ok (.invokevirtual 37, 3) := by decide +kernel
theorem dL_order_8 : decode cL_order 8 = .ok (.i2l, 1) := by decide +kernel
theorem dL_order_9 : decode cL_order 9 = .ok (.lastore, 1) := by decide +kernel
theorem dL_order_10 : decode cL_order 10 = .ok (.goto 15, 3) := by decide +kernel
theorem dL_order_13 : decode cL_order 13 = .ok (.astore 4, 2) := by decide +kernel
theorem dL_order_15 : decode cL_order 15 = .ok (.iconst 1, 1) := by decide +kernel
theorem dL_order_16 : decode cL_order 16 = .ok (.ireturn, 1) := by decide +kernel
theorem dL_order_17 : decode cL_order 17 = .ok (.astore 4, 2) := by decide +kernel
theorem dL_order_19 : decode cL_order 19 = .ok (.iconst 2, 1) := by decide +kernel
theorem dL_order_20 : decode cL_order 20 = .ok (.ireturn, 1) := by decide +kernel
theorem dL_order_21 : decode cL_order 21 = .ok (.astore 4, 2) := by decide +kernel
theorem dL_order_23 : decode cL_order 23 = .ok (.iconst 3, 1) := by decide +kernel
theorem dL_order_24 : decode cL_order 24 = .ok (.ireturn, 1) := by decide +kernel
theorem dL_order_25 : decode cL_order 25 = .ok (.iconst 0, 1) := by decide +kernel
theorem dL_order_26 : decode cL_order 26 = .ok (.ireturn, 1) := by decide +kernel
theorem dL_draft_0 : decode cL_draft 0 = .ok (.aload_n 3, 1) := by decide +kernel
theorem dL_draft_1 : decode cL_draft 1 = .ok (.iconst 0, 1) := by decide +kernel
theorem dL_draft_2 : decode cL_draft 2 = .ok (.aload_n 0, 1) := by decide +kernel
theorem dL_draft_3 : decode cL_draft 3 = .ok (.iload_n 1, 1) := by decide +kernel
theorem dL_draft_4 : decode cL_draft 4 = .ok (.iload_n 2, 1) := by decide +kernel
theorem dL_draft_5 : decode cL_draft 5 = .ok (.invokevirtual 40, 3) := by decide +kernel
theorem dL_draft_8 : decode cL_draft 8 = .ok (.i2l, 1) := by decide +kernel
theorem dL_draft_9 : decode cL_draft 9 = .ok (.lastore, 1) := by decide +kernel
theorem dL_draft_10 : decode cL_draft 10 = .ok (.goto 11, 3) := by decide +kernel
theorem dL_draft_13 : decode cL_draft 13 = .ok (.astore 4, 2) := by decide +kernel
theorem dL_draft_15 : decode cL_draft 15 = .ok (.iconst 1, 1) := by decide +kernel
theorem dL_draft_16 : decode cL_draft 16 = .ok (.ireturn, 1) := by decide +kernel
theorem dL_draft_17 : decode cL_draft 17 = .ok (.astore 4, 2) := by decide +kernel
theorem dL_draft_19 : decode cL_draft 19 = .ok (.iconst 2, 1) := by decide +kernel
theorem dL_draft_20 : decode cL_draft 20 = .ok (.ireturn, 1) := by decide +kernel
theorem dL_draft_21 : decode cL_draft 21 = .ok (.iconst 0, 1) := by decide +kernel
theorem dL_draft_22 : decode cL_draft 22 = .ok (.ireturn, 1) := by decide +kernel
theorem dL_revise_0 : decode cL_revise 0 = .ok (.aload_n 3, 1) := by decide +kernel
theorem dL_revise_1 : decode cL_revise 1 = .ok (.iconst 0, 1) := by decide +kernel
theorem dL_revise_2 : decode cL_revise 2 = .ok (.aload_n 0, 1) := by decide +kernel
theorem dL_revise_3 : decode cL_revise 3 = .ok (.iload_n 1, 1) := by decide +kernel
theorem dL_revise_4 : decode cL_revise 4 = .ok (.iload_n 2, 1) := by decide +kernel
theorem dL_revise_5 : decode cL_revise 5 = .ok (.invokevirtual 43, 3) := by decide +kernel
theorem dL_revise_8 : decode cL_revise 8 = .ok (.i2l, 1) := by decide +kernel
theorem dL_revise_9 : decode cL_revise 9 = .ok (.lastore, 1) := by decide +kernel
theorem dL_revise_10 : decode cL_revise 10 = .ok (.goto 15, 3) := by decide +kernel
theorem dL_revise_13 : decode cL_revise 13 = .ok (.astore 4, 2) := by decide +kernel
theorem dL_revise_15 : decode cL_revise 15 = .ok (.iconst 1, 1) := by decide +kernel
theorem dL_revise_16 : decode cL_revise 16 = .ok (.ireturn, 1) := by decide +kernel
theorem dL_revise_17 : decode cL_revise 17 = .ok (.astore 4, 2) := by decide +kernel
theorem dL_revise_19 : decode cL_revise 19 = .ok (.iconst 2, 1) := by decide +kernel
theorem dL_revise_20 : decode cL_revise 20 = .ok (.ireturn, 1) := by decide +kernel
theorem dL_revise_21 : decode cL_revise 21 = .ok (.astore 4, 2) := by decide +kernel
theorem dL_revise_23 : decode cL_revise 23 = .ok (.iconst 3, 1) := by decide +kernel
theorem dL_revise_24 : decode cL_revise 24 = .ok (.ireturn, 1) := by decide +kernel
theorem dL_revise_25 : decode cL_revise 25 = .ok (.iconst 0, 1) := by decide +kernel
theorem dL_revise_26 : decode cL_revise 26 = .ok (.ireturn, 1) := by decide +kernel
theorem dL_share_0 : decode cL_share 0 = .ok (.aload_n 2, 1) := by decide +kernel
theorem dL_share_1 : decode cL_share 1 = .ok (.iconst 0, 1) := by decide +kernel
theorem dL_share_2 : decode cL_share 2 = .ok (.aload_n 0, 1) := by decide +kernel
theorem dL_share_3 : decode cL_share 3 = .ok (.iload_n 1, 1) := by decide +kernel
theorem dL_share_4 : decode cL_share 4 = .ok (.invokevirtual 46, 3) := by decide +kernel
theorem dL_share_7 : decode cL_share 7 = .ok (.i2l, 1) := by decide +kernel
theorem dL_share_8 : decode cL_share 8 = .ok (.lastore, 1) := by decide +kernel
theorem dL_share_9 : decode cL_share 9 = .ok (.goto 12, 3) := by decide +kernel
theorem dL_share_12 : decode cL_share 12 = .ok (.astore_n 3, 1) := by decide +kernel
theorem dL_share_13 : decode cL_share 13 = .ok (.iconst 1, 1) := by decide +kernel
theorem dL_share_14 : decode cL_share 14 = .ok (.ireturn, 1) := by decide +kernel
theorem dL_share_15 : decode cL_share 15 = .ok (.astore_n 3, 1) := by decide +kernel
theorem dL_share_16 : decode cL_share 16 = .ok (.iconst 2, 1) := by decide +kernel
theorem dL_share_17 : decode cL_share 17 = .ok (.ireturn, 1) := by decide +kernel
theorem dL_share_18 : decode cL_share 18 = .ok (.astore_n 3, 1) := by decide +kernel
theorem dL_share_19 : decode cL_share 19 = .ok (.iconst 3, 1) := by decide +kernel
theorem dL_share_20 : decode cL_share 20 = .ok (.ireturn, 1) := by decide +kernel
theorem dL_share_21 : decode cL_share 21 = .ok (.iconst 0, 1) := by decide +kernel
theorem dL_share_22 : decode cL_share 22 = .ok (.ireturn, 1) := by decide +kernel
theorem dL_accept_0 : decode cL_accept 0 = .ok (.aload_n 2, 1) := by decide +kernel
theorem dL_accept_1 : decode cL_accept 1 = .ok (.iconst 0, 1) := by decide +kernel
theorem dL_accept_2 : decode cL_accept 2 = .ok (.aload_n 0, 1) := by decide +kernel
theorem dL_accept_3 : decode cL_accept 3 = .ok (.iload_n 1, 1) := by decide +kernel
theorem dL_accept_4 : decode cL_accept 4 = .ok (.invokevirtual 49, 3) := by decide +kernel
theorem dL_accept_7 : decode cL_accept 7 = .ok (.i2l, 1) := by decide +kernel
theorem dL_accept_8 : decode cL_accept 8 = .ok (.lastore, 1) := by decide +kernel
theorem dL_accept_9 : decode cL_accept 9 = .ok (.goto 9, 3) := by decide +kernel
theorem dL_accept_12 : decode cL_accept 12 = .ok (.astore_n 3, 1) := by decide +kernel
theorem dL_accept_13 : decode cL_accept 13 = .ok (.iconst 1, 1) := by decide +kernel
theorem dL_accept_14 : decode cL_accept 14 = .ok (.ireturn, 1) := by decide +kernel
theorem dL_accept_15 : decode cL_accept 15 = .ok (.astore_n 3, 1) := by decide +kernel
theorem dL_accept_16 : decode cL_accept 16 = .ok (.iconst 2, 1) := by decide +kernel
theorem dL_accept_17 : decode cL_accept 17 = .ok (.ireturn, 1) := by decide +kernel
theorem dL_accept_18 : decode cL_accept 18 = .ok (.iconst 0, 1) := by decide +kernel
theorem dL_accept_19 : decode cL_accept 19 = .ok (.ireturn, 1) := by decide +kernel
theorem dL_kill_0 : decode cL_kill 0 = .ok (.aload_n 2, 1) := by decide +kernel
theorem dL_kill_1 : decode cL_kill 1 = .ok (.iconst 0, 1) := by decide +kernel
theorem dL_kill_2 : decode cL_kill 2 = .ok (.aload_n 0, 1) := by decide +kernel
theorem dL_kill_3 : decode cL_kill 3 = .ok (.iload_n 1, 1) := by decide +kernel
theorem dL_kill_4 : decode cL_kill 4 = .ok (.invokevirtual 52, 3) := by decide +kernel
theorem dL_kill_7 : decode cL_kill 7 = .ok (.i2l, 1) := by decide +kernel
theorem dL_kill_8 : decode cL_kill 8 = .ok (.lastore, 1) := by decide +kernel
theorem dL_kill_9 : decode cL_kill 9 = .ok (.goto 9, 3) := by decide +kernel
theorem dL_kill_12 : decode cL_kill 12 = .ok (.astore_n 3, 1) := by decide +kernel
theorem dL_kill_13 : decode cL_kill 13 = .ok (.iconst 1, 1) := by decide +kernel
theorem dL_kill_14 : decode cL_kill 14 = .ok (.ireturn, 1) := by decide +kernel
theorem dL_kill_15 : decode cL_kill 15 = .ok (.astore_n 3, 1) := by decide +kernel
theorem dL_kill_16 : decode cL_kill 16 = .ok (.iconst 2, 1) := by decide +kernel
theorem dL_kill_17 : decode cL_kill 17 = .ok (.ireturn, 1) := by decide +kernel
theorem dL_kill_18 : decode cL_kill 18 = .ok (.iconst 0, 1) := by decide +kernel
theorem dL_kill_19 : decode cL_kill 19 = .ok (.ireturn, 1) := by decide +kernel
theorem dL_royalty_0 : decode cL_royalty 0 = .ok (.aload_n 3, 1) := by decide +kernel
theorem dL_royalty_1 : decode cL_royalty 1 = .ok (.iconst 0, 1) := by decide +kernel
theorem dL_royalty_2 : decode cL_royalty 2 = .ok (.aload_n 0, 1) := by decide +kernel
theorem dL_royalty_3 : decode cL_royalty 3 = .ok (.iload_n 1, 1) := by decide +kernel
theorem dL_royalty_4 : decode cL_royalty 4 = .ok (.iload_n 2, 1) := by decide +kernel
theorem dL_royalty_5 : decode cL_royalty 5 = .ok (.invokevirtual 55, 3) := by decide +kernel
theorem dL_royalty_8 : decode cL_royalty 8 = .ok (.i2l, 1) := by decide +kernel
theorem dL_royalty_9 : decode cL_royalty 9 = .ok (.lastore, 1) := by decide +kernel
theorem dL_royalty_10 : decode cL_royalty 10 = .ok (.goto 15, 3) := by decide +kernel
theorem dL_royalty_13 : decode cL_royalty 13 = .ok (.astore 4, 2) := by decide +kernel
theorem dL_royalty_15 : decode cL_royalty 15 = .ok (.iconst 1, 1) := by decide +kernel
theorem dL_royalty_16 : decode cL_royalty 16 = .ok (.ireturn, 1) := by decide +kernel
theorem dL_royalty_17 : decode cL_royalty 17 = .ok (.astore 4, 2) := by decide +kernel
theorem dL_royalty_19 : decode cL_royalty 19 = .ok (.iconst 2, 1) := by decide +kernel
theorem dL_royalty_20 : decode cL_royalty 20 = .ok (.ireturn, 1) := by decide +kernel
theorem dL_royalty_21 : decode cL_royalty 21 = .ok (.astore 4, 2) := by decide +kernel
theorem dL_royalty_23 : decode cL_royalty 23 = .ok (.iconst 3, 1) := by decide +kernel
theorem dL_royalty_24 : decode cL_royalty 24 = .ok (.ireturn, 1) := by decide +kernel
theorem dL_royalty_25 : decode cL_royalty 25 = .ok (.iconst 0, 1) := by decide +kernel
theorem dL_royalty_26 : decode cL_royalty 26 = .ok (.ireturn, 1) := by decide +kernel
theorem dL_dispute_0 : decode cL_dispute 0 = .ok (.aload_n 3, 1) := by decide +kernel
theorem dL_dispute_1 : decode cL_dispute 1 = .ok (.iconst 0, 1) := by decide +kernel
theorem dL_dispute_2 : decode cL_dispute 2 = .ok (.aload_n 0, 1) := by decide +kernel
theorem dL_dispute_3 : decode cL_dispute 3 = .ok (.iload_n 1, 1) := by decide +kernel
theorem dL_dispute_4 : decode cL_dispute 4 = .ok (.iload_n 2, 1) := by decide +kernel
theorem dL_dispute_5 : decode cL_dispute 5 = .ok (.invokevirtual 58, 3) := by decide +kernel
theorem dL_dispute_8 : decode cL_dispute 8 = .ok (.i2l, 1) := by decide +kernel
theorem dL_dispute_9 : decode cL_dispute 9 = .ok (.lastore, 1) := by decide +kernel
theorem dL_dispute_10 : decode cL_dispute 10 = .ok (.goto 11, 3) := by decide +kernel
theorem dL_dispute_13 : decode cL_dispute 13 = .ok (.astore 4, 2) := by decide +kernel
theorem dL_dispute_15 : decode cL_dispute 15 = .ok (.iconst 1, 1) := by decide +kernel
theorem dL_dispute_16 : decode cL_dispute 16 = .ok (.ireturn, 1) := by decide +kernel
theorem dL_dispute_17 : decode cL_dispute 17 = .ok (.astore 4, 2) := by decide +kernel
theorem dL_dispute_19 : decode cL_dispute 19 = .ok (.iconst 2, 1) := by decide +kernel
theorem dL_dispute_20 : decode cL_dispute 20 = .ok (.ireturn, 1) := by decide +kernel
theorem dL_dispute_21 : decode cL_dispute 21 = .ok (.iconst 0, 1) := by decide +kernel
theorem dL_dispute_22 : decode cL_dispute 22 = .ok (.ireturn, 1) := by decide +kernel
theorem dL_append_0 : decode cL_append 0 = .ok (.aload_n 2, 1) := by decide +kernel
theorem dL_append_1 : decode cL_append 1 = .ok (.iconst 0, 1) := by decide +kernel
theorem dL_append_2 : decode cL_append 2 = .ok (.aload_n 0, 1) := by decide +kernel
theorem dL_append_3 : decode cL_append 3 = .ok (.iload_n 1, 1) := by decide +kernel
theorem dL_append_4 : decode cL_append 4 = .ok (.invokevirtual 61, 3) := by decide +kernel
theorem dL_append_7 : decode cL_append 7 = .ok (.i2l, 1) := by decide +kernel
theorem dL_append_8 : decode cL_append 8 = .ok (.lastore, 1) := by decide +kernel
theorem dL_append_9 : decode cL_append 9 = .ok (.goto 9, 3) := by decide +kernel
theorem dL_append_12 : decode cL_append 12 = .ok (.astore_n 3, 1) := by decide +kernel
theorem dL_append_13 : decode cL_append 13 = .ok (.iconst 1, 1) := by decide +kernel
theorem dL_append_14 : decode cL_append 14 = .ok (.ireturn, 1) := by decide +kernel
theorem dL_append_15 : decode cL_append 15 = .ok (.astore_n 3, 1) := by decide +kernel
theorem dL_append_16 : decode cL_append 16 = .ok (.iconst 2, 1) := by decide +kernel
theorem dL_append_17 : decode cL_append 17 = .ok (.ireturn, 1) := by decide +kernel
theorem dL_append_18 : decode cL_append 18 = .ok (.iconst 0, 1) := by decide +kernel
theorem dL_append_19 : decode cL_append 19 = .ok (.ireturn, 1) := by decide +kernel
theorem dL_undo_0 : decode cL_undo 0 = .ok (.aload_n 1, 1) := by decide +kernel
theorem dL_undo_1 : decode cL_undo 1 = .ok (.iconst 0, 1) := by decide +kernel
theorem dL_undo_2 : decode cL_undo 2 = .ok (.aload_n 0, 1) := by decide +kernel
theorem dL_undo_3 : decode cL_undo 3 = .ok (.invokevirtual 64, 3) := by decide +kernel
theorem dL_undo_6 : decode cL_undo 6 = .ok (.i2l, 1) := by decide +kernel
theorem dL_undo_7 : decode cL_undo 7 = .ok (.lastore, 1) := by decide +kernel
theorem dL_undo_8 : decode cL_undo 8 = .ok (.goto 6, 3) := by decide +kernel
theorem dL_undo_11 : decode cL_undo 11 = .ok (.astore_n 2, 1) := by decide +kernel
theorem dL_undo_12 : decode cL_undo 12 = .ok (.iconst 1, 1) := by decide +kernel
theorem dL_undo_13 : decode cL_undo 13 = .ok (.ireturn, 1) := by decide +kernel
theorem dL_undo_14 : decode cL_undo 14 = .ok (.iconst 0, 1) := by decide +kernel
theorem dL_undo_15 : decode cL_undo 15 = .ok (.ireturn, 1) := by decide +kernel
theorem dL_pen_0 : decode cL_pen 0 = .ok (.aload_n 3, 1) := by decide +kernel
theorem dL_pen_1 : decode cL_pen 1 = .ok (.iconst 0, 1) := by decide +kernel
theorem dL_pen_2 : decode cL_pen 2 = .ok (.aload_n 0, 1) := by decide +kernel
theorem dL_pen_3 : decode cL_pen 3 = .ok (.iload_n 1, 1) := by decide +kernel
theorem dL_pen_4 : decode cL_pen 4 = .ok (.iload_n 2, 1) := by decide +kernel
theorem dL_pen_5 : decode cL_pen 5 = .ok (.invokevirtual 67, 3) := by decide +kernel
theorem dL_pen_8 : decode cL_pen 8 = .ok (.i2l, 1) := by decide +kernel
theorem dL_pen_9 : decode cL_pen 9 = .ok (.lastore, 1) := by decide +kernel
theorem dL_pen_10 : decode cL_pen 10 = .ok (.goto 11, 3) := by decide +kernel
theorem dL_pen_13 : decode cL_pen 13 = .ok (.astore 4, 2) := by decide +kernel
theorem dL_pen_15 : decode cL_pen 15 = .ok (.iconst 1, 1) := by decide +kernel
theorem dL_pen_16 : decode cL_pen 16 = .ok (.ireturn, 1) := by decide +kernel
theorem dL_pen_17 : decode cL_pen 17 = .ok (.astore 4, 2) := by decide +kernel
theorem dL_pen_19 : decode cL_pen 19 = .ok (.iconst 2, 1) := by decide +kernel
theorem dL_pen_20 : decode cL_pen 20 = .ok (.ireturn, 1) := by decide +kernel
theorem dL_pen_21 : decode cL_pen 21 = .ok (.iconst 0, 1) := by decide +kernel
theorem dL_pen_22 : decode cL_pen 22 = .ok (.ireturn, 1) := by decide +kernel
theorem dL_piece_0 : decode cL_piece 0 = .ok (.aload_n 3, 1) := by decide +kernel
theorem dL_piece_1 : decode cL_piece 1 = .ok (.iconst 0, 1) := by decide +kernel
theorem dL_piece_2 : decode cL_piece 2 = .ok (.aload_n 0, 1) := by decide +kernel
theorem dL_piece_3 : decode cL_piece 3 = .ok (.iload_n 1, 1) := by decide +kernel
theorem dL_piece_4 : decode cL_piece 4 = .ok (.iload_n 2, 1) := by decide +kernel
theorem dL_piece_5 : decode cL_piece 5 = .ok (.invokevirtual 70, 3) := by decide +kernel
theorem dL_piece_8 : decode cL_piece 8 = .ok (.i2l, 1) := by decide +kernel
theorem dL_piece_9 : decode cL_piece 9 = .ok (.lastore, 1) := by decide +kernel
theorem dL_piece_10 : decode cL_piece 10 = .ok (.goto 11, 3) := by decide +kernel
theorem dL_piece_13 : decode cL_piece 13 = .ok (.astore 4, 2) := by decide +kernel
theorem dL_piece_15 : decode cL_piece 15 = .ok (.iconst 1, 1) := by decide +kernel
theorem dL_piece_16 : decode cL_piece 16 = .ok (.ireturn, 1) := by decide +kernel
theorem dL_piece_17 : decode cL_piece 17 = .ok (.astore 4, 2) := by decide +kernel
theorem dL_piece_19 : decode cL_piece 19 = .ok (.iconst 2, 1) := by decide +kernel
theorem dL_piece_20 : decode cL_piece 20 = .ok (.ireturn, 1) := by decide +kernel
theorem dL_piece_21 : decode cL_piece 21 = .ok (.iconst 0, 1) := by decide +kernel
theorem dL_piece_22 : decode cL_piece 22 = .ok (.ireturn, 1) := by decide +kernel
theorem dL_between_0 : decode cL_between 0 = .ok (.aload 4, 2) := by decide +kernel
theorem dL_between_2 : decode cL_between 2 = .ok (.iconst 0, 1) := by decide +kernel
theorem dL_between_3 : decode cL_between 3 = .ok (.aload_n 0, 1) := by decide +kernel
theorem dL_between_4 : decode cL_between 4 = .ok (.iload_n 1, 1) := by decide +kernel
theorem dL_between_5 : decode cL_between 5 = .ok (.iload_n 2, 1) := by decide +kernel
theorem dL_between_6 : decode cL_between 6 = .ok (.iload_n 3, 1) := by decide +kernel
theorem dL_between_7 : decode cL_between 7 = .ok (.invokevirtual 73, 3) := by decide +kernel
theorem dL_between_10 : decode cL_between 10 = .ok (.i2l, 1) := by decide +kernel
theorem dL_between_11 : decode cL_between 11 = .ok (.lastore, 1) := by decide +kernel
theorem dL_between_12 : decode cL_between 12 = .ok (.goto 11, 3) := by decide +kernel
theorem dL_between_15 : decode cL_between 15 = .ok (.astore 5, 2) := by decide +kernel
theorem dL_between_17 : decode cL_between 17 = .ok (.iconst 1, 1) := by decide +kernel
theorem dL_between_18 : decode cL_between 18 = .ok (.ireturn, 1) := by decide +kernel
theorem dL_between_19 : decode cL_between 19 = .ok (.astore 5, 2) := by decide +kernel
theorem dL_between_21 : decode cL_between 21 = .ok (.iconst 2, 1) := by decide +kernel
theorem dL_between_22 : decode cL_between 22 = .ok (.ireturn, 1) := by decide +kernel
theorem dL_between_23 : decode cL_between 23 = .ok (.iconst 0, 1) := by decide +kernel
theorem dL_between_24 : decode cL_between 24 = .ok (.ireturn, 1) := by decide +kernel
theorem dL_count_0 : decode cL_count 0 = .ok (.aload_n 2, 1) := by decide +kernel
theorem dL_count_1 : decode cL_count 1 = .ok (.iconst 0, 1) := by decide +kernel
theorem dL_count_2 : decode cL_count 2 = .ok (.aload_n 0, 1) := by decide +kernel
theorem dL_count_3 : decode cL_count 3 = .ok (.iload_n 1, 1) := by decide +kernel
theorem dL_count_4 : decode cL_count 4 = .ok (.invokevirtual 76, 3) := by decide +kernel
theorem dL_count_7 : decode cL_count 7 = .ok (.i2l, 1) := by decide +kernel
theorem dL_count_8 : decode cL_count 8 = .ok (.lastore, 1) := by decide +kernel
theorem dL_count_9 : decode cL_count 9 = .ok (.goto 6, 3) := by decide +kernel
theorem dL_count_12 : decode cL_count 12 = .ok (.astore_n 3, 1) := by decide +kernel
theorem dL_count_13 : decode cL_count 13 = .ok (.iconst 1, 1) := by decide +kernel
theorem dL_count_14 : decode cL_count 14 = .ok (.ireturn, 1) := by decide +kernel
theorem dL_count_15 : decode cL_count 15 = .ok (.iconst 0, 1) := by decide +kernel
theorem dL_count_16 : decode cL_count 16 = .ok (.ireturn, 1) := by decide +kernel
theorem dL_setting_0 : decode cL_setting 0 = .ok (.aload_n 2, 1) := by decide +kernel
theorem dL_setting_1 : decode cL_setting 1 = .ok (.iconst 0, 1) := by decide +kernel
theorem dL_setting_2 : decode cL_setting 2 = .ok (.aload_n 0, 1) := by decide +kernel
theorem dL_setting_3 : decode cL_setting 3 = .ok (.iload_n 1, 1) := by decide +kernel
theorem dL_setting_4 : decode cL_setting 4 = .ok (.invokevirtual 79, 3) := by decide +kernel
theorem dL_setting_7 : decode cL_setting 7 = .ok (.i2l, 1) := by decide +kernel
theorem dL_setting_8 : decode cL_setting 8 = .ok (.lastore, 1) := by decide +kernel
theorem dL_setting_9 : decode cL_setting 9 = .ok (.goto 6, 3) := by decide +kernel
theorem dL_setting_12 : decode cL_setting 12 = .ok (.astore_n 3, 1) := by decide +kernel
theorem dL_setting_13 : decode cL_setting 13 = .ok (.iconst 1, 1) := by decide +kernel
theorem dL_setting_14 : decode cL_setting 14 = .ok (.ireturn, 1) := by decide +kernel
theorem dL_setting_15 : decode cL_setting 15 = .ok (.iconst 0, 1) := by decide +kernel
theorem dL_setting_16 : decode cL_setting 16 = .ok (.ireturn, 1) := by decide +kernel
theorem dL_ifPaid_0 : decode cL_ifPaid 0 = .ok (.aload 4, 2) := by decide +kernel
theorem dL_ifPaid_2 : decode cL_ifPaid 2 = .ok (.iconst 0, 1) := by decide +kernel
theorem dL_ifPaid_3 : decode cL_ifPaid 3 = .ok (.aload_n 0, 1) := by decide +kernel
theorem dL_ifPaid_4 : decode cL_ifPaid 4 = .ok (.iload_n 1, 1) := by decide +kernel
theorem dL_ifPaid_5 : decode cL_ifPaid 5 = .ok (.iload_n 2, 1) := by decide +kernel
theorem dL_ifPaid_6 : decode cL_ifPaid 6 = .ok (.iload_n 3, 1) := by decide +kernel
theorem dL_ifPaid_7 : decode cL_ifPaid 7 = .ok (.invokevirtual 82, 3) := by decide +kernel
theorem dL_ifPaid_10 : decode cL_ifPaid 10 = .ok (.i2l, 1) := by decide +kernel
theorem dL_ifPaid_11 : decode cL_ifPaid 11 = .ok (.lastore, 1) := by decide +kernel
theorem dL_ifPaid_12 : decode cL_ifPaid 12 = .ok (.goto 15, 3) := by decide +kernel
theorem dL_ifPaid_15 : decode cL_ifPaid 15 = .ok (.astore 5, 2) := by decide +kernel
theorem dL_ifPaid_17 : decode cL_ifPaid 17 = .ok (.iconst 1, 1) := by decide +kernel
theorem dL_ifPaid_18 : decode cL_ifPaid 18 = .ok (.ireturn, 1) := by decide +kernel
theorem dL_ifPaid_19 : decode cL_ifPaid 19 = .ok (.astore 5, 2) := by decide +kernel
theorem dL_ifPaid_21 : decode cL_ifPaid 21 = .ok (.iconst 2, 1) := by decide +kernel
theorem dL_ifPaid_22 : decode cL_ifPaid 22 = .ok (.ireturn, 1) := by decide +kernel
theorem dL_ifPaid_23 : decode cL_ifPaid 23 = .ok (.astore 5, 2) := by decide +kernel
theorem dL_ifPaid_25 : decode cL_ifPaid 25 = .ok (.iconst 3, 1) := by decide +kernel
theorem dL_ifPaid_26 : decode cL_ifPaid 26 = .ok (.ireturn, 1) := by decide +kernel
theorem dL_ifPaid_27 : decode cL_ifPaid 27 = .ok (.iconst 0, 1) := by decide +kernel
theorem dL_ifPaid_28 : decode cL_ifPaid 28 = .ok (.ireturn, 1) := by decide +kernel
theorem dL_fairest_0 : decode cL_fairest 0 = .ok (.aload_n 3, 1) := by decide +kernel
theorem dL_fairest_1 : decode cL_fairest 1 = .ok (.iconst 0, 1) := by decide +kernel
theorem dL_fairest_2 : decode cL_fairest 2 = .ok (.aload_n 0, 1) := by decide +kernel
theorem dL_fairest_3 : decode cL_fairest 3 = .ok (.iload_n 1, 1) := by decide +kernel
theorem dL_fairest_4 : decode cL_fairest 4 = .ok (.iload_n 2, 1) := by decide +kernel
theorem dL_fairest_5 : decode cL_fairest 5 = .ok (.invokevirtual 85, 3) := by decide +kernel
theorem dL_fairest_8 : decode cL_fairest 8 = .ok (.i2l, 1) := by decide +kernel
theorem dL_fairest_9 : decode cL_fairest 9 = .ok (.lastore, 1) := by decide +kernel
theorem dL_fairest_10 : decode cL_fairest 10 = .ok (.goto 7, 3) := by decide +kernel
theorem dL_fairest_13 : decode cL_fairest 13 = .ok (.astore 4, 2) := by decide +kernel
theorem dL_fairest_15 : decode cL_fairest 15 = .ok (.iconst 1, 1) := by decide +kernel
theorem dL_fairest_16 : decode cL_fairest 16 = .ok (.ireturn, 1) := by decide +kernel
theorem dL_fairest_17 : decode cL_fairest 17 = .ok (.iconst 0, 1) := by decide +kernel
theorem dL_fairest_18 : decode cL_fairest 18 = .ok (.ireturn, 1) := by decide +kernel
theorem dL_bestPiece_0 : decode cL_bestPiece 0 = .ok (.aload_n 3, 1) := by decide +kernel
theorem dL_bestPiece_1 : decode cL_bestPiece 1 = .ok (.iconst 0, 1) := by decide +kernel
theorem dL_bestPiece_2 : decode cL_bestPiece 2 = .ok (.aload_n 0, 1) := by decide +kernel
theorem dL_bestPiece_3 : decode cL_bestPiece 3 = .ok (.iload_n 1, 1) := by decide +kernel
theorem dL_bestPiece_4 : decode cL_bestPiece 4 = .ok (.iload_n 2, 1) := by decide +kernel
theorem dL_bestPiece_5 : decode cL_bestPiece 5 = .ok (.invokevirtual 88, 3) := by decide +kernel
theorem dL_bestPiece_8 : decode cL_bestPiece 8 = .ok (.i2l, 1) := by decide +kernel
theorem dL_bestPiece_9 : decode cL_bestPiece 9 = .ok (.lastore, 1) := by decide +kernel
theorem dL_bestPiece_10 : decode cL_bestPiece 10 = .ok (.goto 11, 3) := by decide +kernel
theorem dL_bestPiece_13 : decode cL_bestPiece 13 = .ok (.astore 4, 2) := by decide +kernel
theorem dL_bestPiece_15 : decode cL_bestPiece 15 = .ok (.iconst 1, 1) := by decide +kernel
theorem dL_bestPiece_16 : decode cL_bestPiece 16 = .ok (.ireturn, 1) := by decide +kernel
theorem dL_bestPiece_17 : decode cL_bestPiece 17 = .ok (.astore 4, 2) := by decide +kernel
theorem dL_bestPiece_19 : decode cL_bestPiece 19 = .ok (.iconst 2, 1) := by decide +kernel
theorem dL_bestPiece_20 : decode cL_bestPiece 20 = .ok (.ireturn, 1) := by decide +kernel
theorem dL_bestPiece_21 : decode cL_bestPiece 21 = .ok (.iconst 0, 1) := by decide +kernel
theorem dL_bestPiece_22 : decode cL_bestPiece 22 = .ok (.ireturn, 1) := by decide +kernel
theorem dL_law_0 : decode cL_law 0 = .ok (.new 8, 3) := by decide +kernel
theorem dL_law_3 : decode cL_law 3 = .ok (.dup, 1) := by decide +kernel
theorem dL_law_4 : decode cL_law 4 = .ok (.invokespecial 91, 3) := by decide +kernel
theorem dL_law_7 : decode cL_law 7 = .ok (.astore_n 1, 1) := by decide +kernel
theorem dL_law_8 : decode cL_law 8 = .ok (.new 92, 3) := by decide +kernel
theorem dL_law_11 : decode cL_law 11 = .ok (.dup, 1) := by decide +kernel
theorem dL_law_12 : decode cL_law 12 = .ok (.invokespecial 94, 3) := by decide +kernel
theorem dL_law_15 : decode cL_law 15 = .ok (.astore_n 2, 1) := by decide +kernel
theorem dL_law_16 : decode cL_law 16 = .ok (.iconst 1, 1) := by decide +kernel
theorem dL_law_17 : decode cL_law 17 = .ok (.newarray .long, 2) := by decide +kernel
theorem dL_law_19 : decode cL_law 19 = .ok (.astore_n 3, 1) := by decide +kernel
theorem dL_law_20 : decode cL_law 20 = .ok (.iconst 0, 1) := by decide +kernel
theorem dL_law_21 : decode cL_law 21 = .ok (.istore 4, 2) := by decide +kernel
theorem dL_law_23 : decode cL_law 23 = .ok (.iload 4, 2) := by decide +kernel
theorem dL_law_25 : decode cL_law 25 = .ok (.aload_n 0, 1) := by decide +kernel
theorem dL_law_26 : decode cL_law 26 = .ok (.arraylength, 1) := by decide +kernel
theorem dL_law_27 : decode cL_law 27 = .ok (.iconst 4, 1) := by decide +kernel
theorem dL_law_28 : decode cL_law 28 = .ok (.isub, 1) := by decide +kernel
theorem dL_law_29 : decode cL_law 29 = .ok (.if_icmp .gt 1775, 3) := by decide +kernel
theorem dL_law_32 : decode cL_law 32 = .ok (.aload_n 0, 1) := by decide +kernel
theorem dL_law_33 : decode cL_law 33 = .ok (.iload 4, 2) := by decide +kernel
theorem dL_law_35 : decode cL_law 35 = .ok (.iaload, 1) := by decide +kernel
theorem dL_law_36 : decode cL_law 36 = .ok (.bipush 31, 2) := by decide +kernel
theorem dL_law_38 : decode cL_law 38 = .ok (.iand, 1) := by decide +kernel
theorem dL_law_39 : decode cL_law 39 = .ok (.tableswitch 1759 0 28 #[129, 173, 253, 309, 377, 445, 513, 526, 594, 662, 730, 786, 842, 898, 966, 1034, 1090, 1103, 1116, 1160, 1228, 1296, 1376, 1432, 1488, 1568, 1636, 1704, 1745], 129) := by decide +kernel
theorem dL_law_168 : decode cL_law 168 = .ok (.aload_n 1, 1) := by decide +kernel
theorem dL_law_169 : decode cL_law 169 = .ok (.aload_n 3, 1) := by decide +kernel
theorem dL_law_170 : decode cL_law 170 = .ok (.invokestatic 95, 3) := by decide +kernel
theorem dL_law_173 : decode cL_law 173 = .ok (.istore 5, 2) := by decide +kernel
theorem dL_law_175 : decode cL_law 175 = .ok (.aload_n 2, 1) := by decide +kernel
theorem dL_law_176 : decode cL_law 176 = .ok (.invokevirtual 100, 3) := by decide +kernel
theorem dL_law_179 : decode cL_law 179 = .ok (.istore 6, 2) := by decide +kernel
theorem dL_law_181 : decode cL_law 181 = .ok (.aload_n 2, 1) := by decide +kernel
theorem dL_law_182 : decode cL_law 182 = .ok (.invokevirtual 101, 3) := by decide +kernel
theorem dL_law_185 : decode cL_law 185 = .ok (.iload 5, 2) := by decide +kernel
theorem dL_law_187 : decode cL_law 187 = .ok (.if_icmp .eq 5, 3) := by decide +kernel
theorem dL_law_190 : decode cL_law 190 = .ok (.iconst 0, 1) := by decide +kernel
theorem dL_law_191 : decode cL_law 191 = .ok (.ireturn, 1) := by decide +kernel
theorem dL_law_192 : decode cL_law 192 = .ok (.iload 5, 2) := by decide +kernel
theorem dL_law_194 : decode cL_law 194 = .ok (.ifCond .ne 15, 3) := by decide +kernel
theorem dL_law_197 : decode cL_law 197 = .ok (.aload_n 3, 1) := by decide +kernel
theorem dL_law_198 : decode cL_law 198 = .ok (.iconst 0, 1) := by decide +kernel
theorem dL_law_199 : decode cL_law 199 = .ok (.laload, 1) := by decide +kernel
theorem dL_law_200 : decode cL_law 200 = .ok (.iload 6, 2) := by decide +kernel
theorem dL_law_202 : decode cL_law 202 = .ok (.i2l, 1) := by decide +kernel
theorem dL_law_203 : decode cL_law 203 = .ok (.lcmp, 1) := by decide +kernel
theorem dL_law_204 : decode cL_law 204 = .ok (.ifCond .eq 5, 3) := by decide +kernel
theorem dL_law_207 : decode cL_law 207 = .ok (.iconst 0, 1) := by decide +kernel
theorem dL_law_208 : decode cL_law 208 = .ok (.ireturn, 1) := by decide +kernel
theorem dL_law_209 : decode cL_law 209 = .ok (.goto 1589, 3) := by decide +kernel
theorem dL_law_212 : decode cL_law 212 = .ok (.aload_n 1, 1) := by decide +kernel
theorem dL_law_213 : decode cL_law 213 = .ok (.aload_n 0, 1) := by decide +kernel
theorem dL_law_214 : decode cL_law 214 = .ok (.iload 4, 2) := by decide +kernel
theorem dL_law_216 : decode cL_law 216 = .ok (.iconst 1, 1) := by decide +kernel
theorem dL_law_217 : decode cL_law 217 = .ok (.iadd, 1) := by decide +kernel
theorem dL_law_218 : decode cL_law 218 = .ok (.iaload, 1) := by decide +kernel
theorem dL_law_219 : decode cL_law 219 = .ok (.aload_n 0, 1) := by decide +kernel
theorem dL_law_220 : decode cL_law 220 = .ok (.iload 4, 2) := by decide +kernel
theorem dL_law_222 : decode cL_law 222 = .ok (.iconst 2, 1) := by decide +kernel
theorem dL_law_223 : decode cL_law 223 = .ok (.iadd, 1) := by decide +kernel
theorem dL_law_224 : decode cL_law 224 = .ok (.iaload, 1) := by decide +kernel
theorem dL_law_225 : decode cL_law 225 = .ok (.aload_n 0, 1) := by decide +kernel
theorem dL_law_226 : decode cL_law 226 = .ok (.iload 4, 2) := by decide +kernel
theorem dL_law_228 : decode cL_law 228 = .ok (.iconst 3, 1) := by decide +kernel
theorem dL_law_229 : decode cL_law 229 = .ok (.iadd, 1) := by decide +kernel
theorem dL_law_230 : decode cL_law 230 = .ok (.iaload, 1) := by decide +kernel
theorem dL_law_231 : decode cL_law 231 = .ok (.aload_n 3, 1) := by decide +kernel
theorem dL_law_232 : decode cL_law 232 = .ok (.invokestatic 104, 3) := by decide +kernel
theorem dL_law_235 : decode cL_law 235 = .ok (.istore 5, 2) := by decide +kernel
theorem dL_law_237 : decode cL_law 237 = .ok (.aload_n 2, 1) := by decide +kernel
theorem dL_law_238 : decode cL_law 238 = .ok (.aload_n 0, 1) := by decide +kernel
theorem dL_law_239 : decode cL_law 239 = .ok (.iload 4, 2) := by decide +kernel
theorem dL_law_241 : decode cL_law 241 = .ok (.iconst 1, 1) := by decide +kernel
theorem dL_law_242 : decode cL_law 242 = .ok (.iadd, 1) := by decide +kernel
theorem dL_law_243 : decode cL_law 243 = .ok (.iaload, 1) := by decide +kernel
theorem dL_law_244 : decode cL_law 244 = .ok (.aload_n 0, 1) := by decide +kernel
theorem dL_law_245 : decode cL_law 245 = .ok (.iload 4, 2) := by decide +kernel
theorem dL_law_247 : decode cL_law 247 = .ok (.iconst 2, 1) := by decide +kernel
theorem dL_law_248 : decode cL_law 248 = .ok (.iadd, 1) := by decide +kernel
theorem dL_law_249 : decode cL_law 249 = .ok (.iaload, 1) := by decide +kernel
theorem dL_law_250 : decode cL_law 250 = .ok (.aload_n 0, 1) := by decide +kernel
theorem dL_law_251 : decode cL_law 251 = .ok (.iload 4, 2) := by decide +kernel
theorem dL_law_253 : decode cL_law 253 = .ok (.iconst 3, 1) := by decide +kernel
theorem dL_law_254 : decode cL_law 254 = .ok (.iadd, 1) := by decide +kernel
theorem dL_law_255 : decode cL_law 255 = .ok (.iaload, 1) := by decide +kernel
theorem dL_law_256 : decode cL_law 256 = .ok (.invokevirtual 107, 3) := by decide +kernel
theorem dL_law_259 : decode cL_law 259 = .ok (.istore 6, 2) := by decide +kernel
theorem dL_law_261 : decode cL_law 261 = .ok (.aload_n 2, 1) := by decide +kernel
theorem dL_law_262 : decode cL_law 262 = .ok (.invokevirtual 101, 3) := by decide +kernel
theorem dL_law_265 : decode cL_law 265 = .ok (.iload 5, 2) := by decide +kernel
theorem dL_law_267 : decode cL_law 267 = .ok (.if_icmp .eq 5, 3) := by decide +kernel
theorem dL_law_270 : decode cL_law 270 = .ok (.iconst 0, 1) := by decide +kernel
theorem dL_law_271 : decode cL_law 271 = .ok (.ireturn, 1) := by decide +kernel
theorem dL_law_272 : decode cL_law 272 = .ok (.iload 5, 2) := by decide +kernel
theorem dL_law_274 : decode cL_law 274 = .ok (.ifCond .ne 15, 3) := by decide +kernel
theorem dL_law_277 : decode cL_law 277 = .ok (.aload_n 3, 1) := by decide +kernel
theorem dL_law_278 : decode cL_law 278 = .ok (.iconst 0, 1) := by decide +kernel
theorem dL_law_279 : decode cL_law 279 = .ok (.laload, 1) := by decide +kernel
theorem dL_law_280 : decode cL_law 280 = .ok (.iload 6, 2) := by decide +kernel
theorem dL_law_282 : decode cL_law 282 = .ok (.i2l, 1) := by decide +kernel
theorem dL_law_283 : decode cL_law 283 = .ok (.lcmp, 1) := by decide +kernel
theorem dL_law_284 : decode cL_law 284 = .ok (.ifCond .eq 5, 3) := by decide +kernel
theorem dL_law_287 : decode cL_law 287 = .ok (.iconst 0, 1) := by decide +kernel
theorem dL_law_288 : decode cL_law 288 = .ok (.ireturn, 1) := by decide +kernel
theorem dL_law_289 : decode cL_law 289 = .ok (.goto 1509, 3) := by decide +kernel
theorem dL_law_292 : decode cL_law 292 = .ok (.aload_n 1, 1) := by decide +kernel
theorem dL_law_293 : decode cL_law 293 = .ok (.aload_n 0, 1) := by decide +kernel
theorem dL_law_294 : decode cL_law 294 = .ok (.iload 4, 2) := by decide +kernel
theorem dL_law_296 : decode cL_law 296 = .ok (.iconst 1, 1) := by decide +kernel
theorem dL_law_297 : decode cL_law 297 = .ok (.iadd, 1) := by decide +kernel
theorem dL_law_298 : decode cL_law 298 = .ok (.iaload, 1) := by decide +kernel
theorem dL_law_299 : decode cL_law 299 = .ok (.aload_n 3, 1) := by decide +kernel
theorem dL_law_300 : decode cL_law 300 = .ok (.invokestatic 108, 3) := by decide +kernel
theorem dL_law_303 : decode cL_law 303 = .ok (.istore 5, 2) := by decide +kernel
theorem dL_law_305 : decode cL_law 305 = .ok (.aload_n 2, 1) := by decide +kernel
theorem dL_law_306 : decode cL_law 306 = .ok (.aload_n 0, 1) := by decide +kernel
theorem dL_law_307 : decode cL_law 307 = .ok (.iload 4, 2) := by decide +kernel
theorem dL_law_309 : decode cL_law 309 = .ok (.iconst 1, 1) := by decide +kernel
theorem dL_law_310 : decode cL_law 310 = .ok (.iadd, 1) := by decide +kernel
theorem dL_law_311 : decode cL_law 311 = .ok (.iaload, 1) := by decide +kernel
theorem dL_law_312 : decode cL_law 312 = .ok (.invokevirtual 111, 3) := by decide +kernel
theorem dL_law_315 : decode cL_law 315 = .ok (.istore 6, 2) := by decide +kernel
theorem dL_law_317 : decode cL_law 317 = .ok (.aload_n 2, 1) := by decide +kernel
theorem dL_law_318 : decode cL_law 318 = .ok (.invokevirtual 101, 3) := by decide +kernel
theorem dL_law_321 : decode cL_law 321 = .ok (.iload 5, 2) := by decide +kernel
theorem dL_law_323 : decode cL_law 323 = .ok (.if_icmp .eq 5, 3) := by decide +kernel
theorem dL_law_326 : decode cL_law 326 = .ok (.iconst 0, 1) := by decide +kernel
theorem dL_law_327 : decode cL_law 327 = .ok (.ireturn, 1) := by decide +kernel
theorem dL_law_328 : decode cL_law 328 = .ok (.iload 5, 2) := by decide +kernel
theorem dL_law_330 : decode cL_law 330 = .ok (.ifCond .ne 15, 3) := by decide +kernel
theorem dL_law_333 : decode cL_law 333 = .ok (.aload_n 3, 1) := by decide +kernel
theorem dL_law_334 : decode cL_law 334 = .ok (.iconst 0, 1) := by decide +kernel
theorem dL_law_335 : decode cL_law 335 = .ok (.laload, 1) := by decide +kernel
theorem dL_law_336 : decode cL_law 336 = .ok (.iload 6, 2) := by decide +kernel
theorem dL_law_338 : decode cL_law 338 = .ok (.i2l, 1) := by decide +kernel
theorem dL_law_339 : decode cL_law 339 = .ok (.lcmp, 1) := by decide +kernel
theorem dL_law_340 : decode cL_law 340 = .ok (.ifCond .eq 5, 3) := by decide +kernel
theorem dL_law_343 : decode cL_law 343 = .ok (.iconst 0, 1) := by decide +kernel
theorem dL_law_344 : decode cL_law 344 = .ok (.ireturn, 1) := by decide +kernel
theorem dL_law_345 : decode cL_law 345 = .ok (.goto 1453, 3) := by decide +kernel
theorem dL_law_348 : decode cL_law 348 = .ok (.aload_n 1, 1) := by decide +kernel
theorem dL_law_349 : decode cL_law 349 = .ok (.aload_n 0, 1) := by decide +kernel
theorem dL_law_350 : decode cL_law 350 = .ok (.iload 4, 2) := by decide +kernel
theorem dL_law_352 : decode cL_law 352 = .ok (.iconst 1, 1) := by decide +kernel
theorem dL_law_353 : decode cL_law 353 = .ok (.iadd, 1) := by decide +kernel
theorem dL_law_354 : decode cL_law 354 = .ok (.iaload, 1) := by decide +kernel
theorem dL_law_355 : decode cL_law 355 = .ok (.aload_n 0, 1) := by decide +kernel
theorem dL_law_356 : decode cL_law 356 = .ok (.iload 4, 2) := by decide +kernel
theorem dL_law_358 : decode cL_law 358 = .ok (.iconst 2, 1) := by decide +kernel
theorem dL_law_359 : decode cL_law 359 = .ok (.iadd, 1) := by decide +kernel
theorem dL_law_360 : decode cL_law 360 = .ok (.iaload, 1) := by decide +kernel
theorem dL_law_361 : decode cL_law 361 = .ok (.aload_n 3, 1) := by decide +kernel
theorem dL_law_362 : decode cL_law 362 = .ok (.invokestatic 112, 3) := by decide +kernel
theorem dL_law_365 : decode cL_law 365 = .ok (.istore 5, 2) := by decide +kernel
theorem dL_law_367 : decode cL_law 367 = .ok (.aload_n 2, 1) := by decide +kernel
theorem dL_law_368 : decode cL_law 368 = .ok (.aload_n 0, 1) := by decide +kernel
theorem dL_law_369 : decode cL_law 369 = .ok (.iload 4, 2) := by decide +kernel
theorem dL_law_371 : decode cL_law 371 = .ok (.iconst 1, 1) := by decide +kernel
theorem dL_law_372 : decode cL_law 372 = .ok (.iadd, 1) := by decide +kernel
theorem dL_law_373 : decode cL_law 373 = .ok (.iaload, 1) := by decide +kernel
theorem dL_law_374 : decode cL_law 374 = .ok (.aload_n 0, 1) := by decide +kernel
theorem dL_law_375 : decode cL_law 375 = .ok (.iload 4, 2) := by decide +kernel
theorem dL_law_377 : decode cL_law 377 = .ok (.iconst 2, 1) := by decide +kernel
theorem dL_law_378 : decode cL_law 378 = .ok (.iadd, 1) := by decide +kernel
theorem dL_law_379 : decode cL_law 379 = .ok (.iaload, 1) := by decide +kernel
theorem dL_law_380 : decode cL_law 380 = .ok (.invokevirtual 115, 3) := by decide +kernel
theorem dL_law_383 : decode cL_law 383 = .ok (.istore 6, 2) := by decide +kernel
theorem dL_law_385 : decode cL_law 385 = .ok (.aload_n 2, 1) := by decide +kernel
theorem dL_law_386 : decode cL_law 386 = .ok (.invokevirtual 101, 3) := by decide +kernel
theorem dL_law_389 : decode cL_law 389 = .ok (.iload 5, 2) := by decide +kernel
theorem dL_law_391 : decode cL_law 391 = .ok (.if_icmp .eq 5, 3) := by decide +kernel
theorem dL_law_394 : decode cL_law 394 = .ok (.iconst 0, 1) := by decide +kernel
theorem dL_law_395 : decode cL_law 395 = .ok (.ireturn, 1) := by decide +kernel
theorem dL_law_396 : decode cL_law 396 = .ok (.iload 5, 2) := by decide +kernel
theorem dL_law_398 : decode cL_law 398 = .ok (.ifCond .ne 15, 3) := by decide +kernel
theorem dL_law_401 : decode cL_law 401 = .ok (.aload_n 3, 1) := by decide +kernel
theorem dL_law_402 : decode cL_law 402 = .ok (.iconst 0, 1) := by decide +kernel
theorem dL_law_403 : decode cL_law 403 = .ok (.laload, 1) := by decide +kernel
theorem dL_law_404 : decode cL_law 404 = .ok (.iload 6, 2) := by decide +kernel
theorem dL_law_406 : decode cL_law 406 = .ok (.i2l, 1) := by decide +kernel
theorem dL_law_407 : decode cL_law 407 = .ok (.lcmp, 1) := by decide +kernel
theorem dL_law_408 : decode cL_law 408 = .ok (.ifCond .eq 5, 3) := by decide +kernel
theorem dL_law_411 : decode cL_law 411 = .ok (.iconst 0, 1) := by decide +kernel
theorem dL_law_412 : decode cL_law 412 = .ok (.ireturn, 1) := by decide +kernel
theorem dL_law_413 : decode cL_law 413 = .ok (.goto 1385, 3) := by decide +kernel
theorem dL_law_416 : decode cL_law 416 = .ok (.aload_n 1, 1) := by decide +kernel
theorem dL_law_417 : decode cL_law 417 = .ok (.aload_n 0, 1) := by decide +kernel
theorem dL_law_418 : decode cL_law 418 = .ok (.iload 4, 2) := by decide +kernel
theorem dL_law_420 : decode cL_law 420 = .ok (.iconst 1, 1) := by decide +kernel
theorem dL_law_421 : decode cL_law 421 = .ok (.iadd, 1) := by decide +kernel
theorem dL_law_422 : decode cL_law 422 = .ok (.iaload, 1) := by decide +kernel
theorem dL_law_423 : decode cL_law 423 = .ok (.aload_n 0, 1) := by decide +kernel
theorem dL_law_424 : decode cL_law 424 = .ok (.iload 4, 2) := by decide +kernel
theorem dL_law_426 : decode cL_law 426 = .ok (.iconst 2, 1) := by decide +kernel
theorem dL_law_427 : decode cL_law 427 = .ok (.iadd, 1) := by decide +kernel
theorem dL_law_428 : decode cL_law 428 = .ok (.iaload, 1) := by decide +kernel
theorem dL_law_429 : decode cL_law 429 = .ok (.aload_n 3, 1) := by decide +kernel
theorem dL_law_430 : decode cL_law 430 = .ok (.invokestatic 116, 3) := by decide +kernel
theorem dL_law_433 : decode cL_law 433 = .ok (.istore 5, 2) := by decide +kernel
theorem dL_law_435 : decode cL_law 435 = .ok (.aload_n 2, 1) := by decide +kernel
theorem dL_law_436 : decode cL_law 436 = .ok (.aload_n 0, 1) := by decide +kernel
theorem dL_law_437 : decode cL_law 437 = .ok (.iload 4, 2) := by decide +kernel
theorem dL_law_439 : decode cL_law 439 = .ok (.iconst 1, 1) := by decide +kernel
theorem dL_law_440 : decode cL_law 440 = .ok (.iadd, 1) := by decide +kernel
theorem dL_law_441 : decode cL_law 441 = .ok (.iaload, 1) := by decide +kernel
theorem dL_law_442 : decode cL_law 442 = .ok (.aload_n 0, 1) := by decide +kernel
theorem dL_law_443 : decode cL_law 443 = .ok (.iload 4, 2) := by decide +kernel
theorem dL_law_445 : decode cL_law 445 = .ok (.iconst 2, 1) := by decide +kernel
theorem dL_law_446 : decode cL_law 446 = .ok (.iadd, 1) := by decide +kernel
theorem dL_law_447 : decode cL_law 447 = .ok (.iaload, 1) := by decide +kernel
theorem dL_law_448 : decode cL_law 448 = .ok (.invokevirtual 118, 3) := by decide +kernel
theorem dL_law_451 : decode cL_law 451 = .ok (.istore 6, 2) := by decide +kernel
theorem dL_law_453 : decode cL_law 453 = .ok (.aload_n 2, 1) := by decide +kernel
theorem dL_law_454 : decode cL_law 454 = .ok (.invokevirtual 101, 3) := by decide +kernel
theorem dL_law_457 : decode cL_law 457 = .ok (.iload 5, 2) := by decide +kernel
theorem dL_law_459 : decode cL_law 459 = .ok (.if_icmp .eq 5, 3) := by decide +kernel
theorem dL_law_462 : decode cL_law 462 = .ok (.iconst 0, 1) := by decide +kernel
theorem dL_law_463 : decode cL_law 463 = .ok (.ireturn, 1) := by decide +kernel
theorem dL_law_464 : decode cL_law 464 = .ok (.iload 5, 2) := by decide +kernel
theorem dL_law_466 : decode cL_law 466 = .ok (.ifCond .ne 15, 3) := by decide +kernel
theorem dL_law_469 : decode cL_law 469 = .ok (.aload_n 3, 1) := by decide +kernel
theorem dL_law_470 : decode cL_law 470 = .ok (.iconst 0, 1) := by decide +kernel
theorem dL_law_471 : decode cL_law 471 = .ok (.laload, 1) := by decide +kernel
theorem dL_law_472 : decode cL_law 472 = .ok (.iload 6, 2) := by decide +kernel
theorem dL_law_474 : decode cL_law 474 = .ok (.i2l, 1) := by decide +kernel
theorem dL_law_475 : decode cL_law 475 = .ok (.lcmp, 1) := by decide +kernel
theorem dL_law_476 : decode cL_law 476 = .ok (.ifCond .eq 5, 3) := by decide +kernel
theorem dL_law_479 : decode cL_law 479 = .ok (.iconst 0, 1) := by decide +kernel
theorem dL_law_480 : decode cL_law 480 = .ok (.ireturn, 1) := by decide +kernel
theorem dL_law_481 : decode cL_law 481 = .ok (.goto 1317, 3) := by decide +kernel
theorem dL_law_484 : decode cL_law 484 = .ok (.aload_n 1, 1) := by decide +kernel
theorem dL_law_485 : decode cL_law 485 = .ok (.aload_n 0, 1) := by decide +kernel
theorem dL_law_486 : decode cL_law 486 = .ok (.iload 4, 2) := by decide +kernel
theorem dL_law_488 : decode cL_law 488 = .ok (.iconst 1, 1) := by decide +kernel
theorem dL_law_489 : decode cL_law 489 = .ok (.iadd, 1) := by decide +kernel
theorem dL_law_490 : decode cL_law 490 = .ok (.iaload, 1) := by decide +kernel
theorem dL_law_491 : decode cL_law 491 = .ok (.aload_n 0, 1) := by decide +kernel
theorem dL_law_492 : decode cL_law 492 = .ok (.iload 4, 2) := by decide +kernel
theorem dL_law_494 : decode cL_law 494 = .ok (.iconst 2, 1) := by decide +kernel
theorem dL_law_495 : decode cL_law 495 = .ok (.iadd, 1) := by decide +kernel
theorem dL_law_496 : decode cL_law 496 = .ok (.iaload, 1) := by decide +kernel
theorem dL_law_497 : decode cL_law 497 = .ok (.aload_n 3, 1) := by decide +kernel
theorem dL_law_498 : decode cL_law 498 = .ok (.invokestatic 119, 3) := by decide +kernel
theorem dL_law_501 : decode cL_law 501 = .ok (.istore 5, 2) := by decide +kernel
theorem dL_law_503 : decode cL_law 503 = .ok (.aload_n 2, 1) := by decide +kernel
theorem dL_law_504 : decode cL_law 504 = .ok (.aload_n 0, 1) := by decide +kernel
theorem dL_law_505 : decode cL_law 505 = .ok (.iload 4, 2) := by decide +kernel
theorem dL_law_507 : decode cL_law 507 = .ok (.iconst 1, 1) := by decide +kernel
theorem dL_law_508 : decode cL_law 508 = .ok (.iadd, 1) := by decide +kernel
theorem dL_law_509 : decode cL_law 509 = .ok (.iaload, 1) := by decide +kernel
theorem dL_law_510 : decode cL_law 510 = .ok (.aload_n 0, 1) := by decide +kernel
theorem dL_law_511 : decode cL_law 511 = .ok (.iload 4, 2) := by decide +kernel
theorem dL_law_513 : decode cL_law 513 = .ok (.iconst 2, 1) := by decide +kernel
theorem dL_law_514 : decode cL_law 514 = .ok (.iadd, 1) := by decide +kernel
theorem dL_law_515 : decode cL_law 515 = .ok (.iaload, 1) := by decide +kernel
theorem dL_law_516 : decode cL_law 516 = .ok (.invokevirtual 121, 3) := by decide +kernel
theorem dL_law_519 : decode cL_law 519 = .ok (.istore 6, 2) := by decide +kernel
theorem dL_law_521 : decode cL_law 521 = .ok (.aload_n 2, 1) := by decide +kernel
theorem dL_law_522 : decode cL_law 522 = .ok (.invokevirtual 101, 3) := by decide +kernel
theorem dL_law_525 : decode cL_law 525 = .ok (.iload 5, 2) := by decide +kernel
theorem dL_law_527 : decode cL_law 527 = .ok (.if_icmp .eq 5, 3) := by decide +kernel
theorem dL_law_530 : decode cL_law 530 = .ok (.iconst 0, 1) := by decide +kernel
theorem dL_law_531 : decode cL_law 531 = .ok (.ireturn, 1) := by decide +kernel
theorem dL_law_532 : decode cL_law 532 = .ok (.iload 5, 2) := by decide +kernel
theorem dL_law_534 : decode cL_law 534 = .ok (.ifCond .ne 15, 3) := by decide +kernel
theorem dL_law_537 : decode cL_law 537 = .ok (.aload_n 3, 1) := by decide +kernel
theorem dL_law_538 : decode cL_law 538 = .ok (.iconst 0, 1) := by decide +kernel
theorem dL_law_539 : decode cL_law 539 = .ok (.laload, 1) := by decide +kernel
theorem dL_law_540 : decode cL_law 540 = .ok (.iload 6, 2) := by decide +kernel
theorem dL_law_542 : decode cL_law 542 = .ok (.i2l, 1) := by decide +kernel
theorem dL_law_543 : decode cL_law 543 = .ok (.lcmp, 1) := by decide +kernel
theorem dL_law_544 : decode cL_law 544 = .ok (.ifCond .eq 5, 3) := by decide +kernel
theorem dL_law_547 : decode cL_law 547 = .ok (.iconst 0, 1) := by decide +kernel
theorem dL_law_548 : decode cL_law 548 = .ok (.ireturn, 1) := by decide +kernel
theorem dL_law_549 : decode cL_law 549 = .ok (.goto 1249, 3) := by decide +kernel
theorem dL_law_552 : decode cL_law 552 = .ok (.aload_n 1, 1) := by decide +kernel
theorem dL_law_553 : decode cL_law 553 = .ok (.invokevirtual 122, 3) := by decide +kernel
theorem dL_law_556 : decode cL_law 556 = .ok (.aload_n 2, 1) := by decide +kernel
theorem dL_law_557 : decode cL_law 557 = .ok (.invokevirtual 125, 3) := by decide +kernel
theorem dL_law_560 : decode cL_law 560 = .ok (.if_icmp .eq 1238, 3) := by decide +kernel
theorem dL_law_563 : decode cL_law 563 = .ok (.iconst 0, 1) := by decide +kernel
theorem dL_law_564 : decode cL_law 564 = .ok (.ireturn, 1) := by decide +kernel
theorem dL_law_565 : decode cL_law 565 = .ok (.aload_n 1, 1) := by decide +kernel
theorem dL_law_566 : decode cL_law 566 = .ok (.aload_n 0, 1) := by decide +kernel
theorem dL_law_567 : decode cL_law 567 = .ok (.iload 4, 2) := by decide +kernel
theorem dL_law_569 : decode cL_law 569 = .ok (.iconst 1, 1) := by decide +kernel
theorem dL_law_570 : decode cL_law 570 = .ok (.iadd, 1) := by decide +kernel
theorem dL_law_571 : decode cL_law 571 = .ok (.iaload, 1) := by decide +kernel
theorem dL_law_572 : decode cL_law 572 = .ok (.aload_n 0, 1) := by decide +kernel
theorem dL_law_573 : decode cL_law 573 = .ok (.iload 4, 2) := by decide +kernel
theorem dL_law_575 : decode cL_law 575 = .ok (.iconst 2, 1) := by decide +kernel
theorem dL_law_576 : decode cL_law 576 = .ok (.iadd, 1) := by decide +kernel
theorem dL_law_577 : decode cL_law 577 = .ok (.iaload, 1) := by decide +kernel
theorem dL_law_578 : decode cL_law 578 = .ok (.aload_n 3, 1) := by decide +kernel
theorem dL_law_579 : decode cL_law 579 = .ok (.invokestatic 126, 3) := by decide +kernel
theorem dL_law_582 : decode cL_law 582 = .ok (.istore 5, 2) := by decide +kernel
theorem dL_law_584 : decode cL_law 584 = .ok (.aload_n 2, 1) := by decide +kernel
theorem dL_law_585 : decode cL_law 585 = .ok (.aload_n 0, 1) := by decide +kernel
theorem dL_law_586 : decode cL_law 586 = .ok (.iload 4, 2) := by decide +kernel
theorem dL_law_588 : decode cL_law 588 = .ok (.iconst 1, 1) := by decide +kernel
theorem dL_law_589 : decode cL_law 589 = .ok (.iadd, 1) := by decide +kernel
theorem dL_law_590 : decode cL_law 590 = .ok (.iaload, 1) := by decide +kernel
theorem dL_law_591 : decode cL_law 591 = .ok (.aload_n 0, 1) := by decide +kernel
theorem dL_law_592 : decode cL_law 592 = .ok (.iload 4, 2) := by decide +kernel
theorem dL_law_594 : decode cL_law 594 = .ok (.iconst 2, 1) := by decide +kernel
theorem dL_law_595 : decode cL_law 595 = .ok (.iadd, 1) := by decide +kernel
theorem dL_law_596 : decode cL_law 596 = .ok (.iaload, 1) := by decide +kernel
theorem dL_law_597 : decode cL_law 597 = .ok (.invokevirtual 128, 3) := by decide +kernel
theorem dL_law_600 : decode cL_law 600 = .ok (.istore 6, 2) := by decide +kernel
theorem dL_law_602 : decode cL_law 602 = .ok (.aload_n 2, 1) := by decide +kernel
theorem dL_law_603 : decode cL_law 603 = .ok (.invokevirtual 101, 3) := by decide +kernel
theorem dL_law_606 : decode cL_law 606 = .ok (.iload 5, 2) := by decide +kernel
theorem dL_law_608 : decode cL_law 608 = .ok (.if_icmp .eq 5, 3) := by decide +kernel
theorem dL_law_611 : decode cL_law 611 = .ok (.iconst 0, 1) := by decide +kernel
theorem dL_law_612 : decode cL_law 612 = .ok (.ireturn, 1) := by decide +kernel
theorem dL_law_613 : decode cL_law 613 = .ok (.iload 5, 2) := by decide +kernel
theorem dL_law_615 : decode cL_law 615 = .ok (.ifCond .ne 15, 3) := by decide +kernel
theorem dL_law_618 : decode cL_law 618 = .ok (.aload_n 3, 1) := by decide +kernel
theorem dL_law_619 : decode cL_law 619 = .ok (.iconst 0, 1) := by decide +kernel
theorem dL_law_620 : decode cL_law 620 = .ok (.laload, 1) := by decide +kernel
theorem dL_law_621 : decode cL_law 621 = .ok (.iload 6, 2) := by decide +kernel
theorem dL_law_623 : decode cL_law 623 = .ok (.i2l, 1) := by decide +kernel
theorem dL_law_624 : decode cL_law 624 = .ok (.lcmp, 1) := by decide +kernel
theorem dL_law_625 : decode cL_law 625 = .ok (.ifCond .eq 5, 3) := by decide +kernel
theorem dL_law_628 : decode cL_law 628 = .ok (.iconst 0, 1) := by decide +kernel
theorem dL_law_629 : decode cL_law 629 = .ok (.ireturn, 1) := by decide +kernel
theorem dL_law_630 : decode cL_law 630 = .ok (.goto 1168, 3) := by decide +kernel
theorem dL_law_633 : decode cL_law 633 = .ok (.aload_n 1, 1) := by decide +kernel
theorem dL_law_634 : decode cL_law 634 = .ok (.aload_n 0, 1) := by decide +kernel
theorem dL_law_635 : decode cL_law 635 = .ok (.iload 4, 2) := by decide +kernel
theorem dL_law_637 : decode cL_law 637 = .ok (.iconst 1, 1) := by decide +kernel
theorem dL_law_638 : decode cL_law 638 = .ok (.iadd, 1) := by decide +kernel
theorem dL_law_639 : decode cL_law 639 = .ok (.iaload, 1) := by decide +kernel
theorem dL_law_640 : decode cL_law 640 = .ok (.aload_n 0, 1) := by decide +kernel
theorem dL_law_641 : decode cL_law 641 = .ok (.iload 4, 2) := by decide +kernel
theorem dL_law_643 : decode cL_law 643 = .ok (.iconst 2, 1) := by decide +kernel
theorem dL_law_644 : decode cL_law 644 = .ok (.iadd, 1) := by decide +kernel
theorem dL_law_645 : decode cL_law 645 = .ok (.iaload, 1) := by decide +kernel
theorem dL_law_646 : decode cL_law 646 = .ok (.aload_n 3, 1) := by decide +kernel
theorem dL_law_647 : decode cL_law 647 = .ok (.invokestatic 129, 3) := by decide +kernel
theorem dL_law_650 : decode cL_law 650 = .ok (.istore 5, 2) := by decide +kernel
theorem dL_law_652 : decode cL_law 652 = .ok (.aload_n 2, 1) := by decide +kernel
theorem dL_law_653 : decode cL_law 653 = .ok (.aload_n 0, 1) := by decide +kernel
theorem dL_law_654 : decode cL_law 654 = .ok (.iload 4, 2) := by decide +kernel
theorem dL_law_656 : decode cL_law 656 = .ok (.iconst 1, 1) := by decide +kernel
theorem dL_law_657 : decode cL_law 657 = .ok (.iadd, 1) := by decide +kernel
theorem dL_law_658 : decode cL_law 658 = .ok (.iaload, 1) := by decide +kernel
theorem dL_law_659 : decode cL_law 659 = .ok (.aload_n 0, 1) := by decide +kernel
theorem dL_law_660 : decode cL_law 660 = .ok (.iload 4, 2) := by decide +kernel
theorem dL_law_662 : decode cL_law 662 = .ok (.iconst 2, 1) := by decide +kernel
theorem dL_law_663 : decode cL_law 663 = .ok (.iadd, 1) := by decide +kernel
theorem dL_law_664 : decode cL_law 664 = .ok (.iaload, 1) := by decide +kernel
theorem dL_law_665 : decode cL_law 665 = .ok (.invokevirtual 131, 3) := by decide +kernel
theorem dL_law_668 : decode cL_law 668 = .ok (.istore 6, 2) := by decide +kernel
theorem dL_law_670 : decode cL_law 670 = .ok (.aload_n 2, 1) := by decide +kernel
theorem dL_law_671 : decode cL_law 671 = .ok (.invokevirtual 101, 3) := by decide +kernel
theorem dL_law_674 : decode cL_law 674 = .ok (.iload 5, 2) := by decide +kernel
theorem dL_law_676 : decode cL_law 676 = .ok (.if_icmp .eq 5, 3) := by decide +kernel
theorem dL_law_679 : decode cL_law 679 = .ok (.iconst 0, 1) := by decide +kernel
theorem dL_law_680 : decode cL_law 680 = .ok (.ireturn, 1) := by decide +kernel
theorem dL_law_681 : decode cL_law 681 = .ok (.iload 5, 2) := by decide +kernel
theorem dL_law_683 : decode cL_law 683 = .ok (.ifCond .ne 15, 3) := by decide +kernel
theorem dL_law_686 : decode cL_law 686 = .ok (.aload_n 3, 1) := by decide +kernel
theorem dL_law_687 : decode cL_law 687 = .ok (.iconst 0, 1) := by decide +kernel
theorem dL_law_688 : decode cL_law 688 = .ok (.laload, 1) := by decide +kernel
theorem dL_law_689 : decode cL_law 689 = .ok (.iload 6, 2) := by decide +kernel
theorem dL_law_691 : decode cL_law 691 = .ok (.i2l, 1) := by decide +kernel
theorem dL_law_692 : decode cL_law 692 = .ok (.lcmp, 1) := by decide +kernel
theorem dL_law_693 : decode cL_law 693 = .ok (.ifCond .eq 5, 3) := by decide +kernel
theorem dL_law_696 : decode cL_law 696 = .ok (.iconst 0, 1) := by decide +kernel
theorem dL_law_697 : decode cL_law 697 = .ok (.ireturn, 1) := by decide +kernel
theorem dL_law_698 : decode cL_law 698 = .ok (.goto 1100, 3) := by decide +kernel
theorem dL_law_701 : decode cL_law 701 = .ok (.aload_n 1, 1) := by decide +kernel
theorem dL_law_702 : decode cL_law 702 = .ok (.aload_n 0, 1) := by decide +kernel
theorem dL_law_703 : decode cL_law 703 = .ok (.iload 4, 2) := by decide +kernel
theorem dL_law_705 : decode cL_law 705 = .ok (.iconst 1, 1) := by decide +kernel
theorem dL_law_706 : decode cL_law 706 = .ok (.iadd, 1) := by decide +kernel
theorem dL_law_707 : decode cL_law 707 = .ok (.iaload, 1) := by decide +kernel
theorem dL_law_708 : decode cL_law 708 = .ok (.aload_n 0, 1) := by decide +kernel
theorem dL_law_709 : decode cL_law 709 = .ok (.iload 4, 2) := by decide +kernel
theorem dL_law_711 : decode cL_law 711 = .ok (.iconst 2, 1) := by decide +kernel
theorem dL_law_712 : decode cL_law 712 = .ok (.iadd, 1) := by decide +kernel
theorem dL_law_713 : decode cL_law 713 = .ok (.iaload, 1) := by decide +kernel
theorem dL_law_714 : decode cL_law 714 = .ok (.aload_n 3, 1) := by decide +kernel
theorem dL_law_715 : decode cL_law 715 = .ok (.invokestatic 132, 3) := by decide +kernel
theorem dL_law_718 : decode cL_law 718 = .ok (.istore 5, 2) := by decide +kernel
theorem dL_law_720 : decode cL_law 720 = .ok (.aload_n 2, 1) := by decide +kernel
theorem dL_law_721 : decode cL_law 721 = .ok (.aload_n 0, 1) := by decide +kernel
theorem dL_law_722 : decode cL_law 722 = .ok (.iload 4, 2) := by decide +kernel
theorem dL_law_724 : decode cL_law 724 = .ok (.iconst 1, 1) := by decide +kernel
theorem dL_law_725 : decode cL_law 725 = .ok (.iadd, 1) := by decide +kernel
theorem dL_law_726 : decode cL_law 726 = .ok (.iaload, 1) := by decide +kernel
theorem dL_law_727 : decode cL_law 727 = .ok (.aload_n 0, 1) := by decide +kernel
theorem dL_law_728 : decode cL_law 728 = .ok (.iload 4, 2) := by decide +kernel
theorem dL_law_730 : decode cL_law 730 = .ok (.iconst 2, 1) := by decide +kernel
theorem dL_law_731 : decode cL_law 731 = .ok (.iadd, 1) := by decide +kernel
theorem dL_law_732 : decode cL_law 732 = .ok (.iaload, 1) := by decide +kernel
theorem dL_law_733 : decode cL_law 733 = .ok (.invokevirtual 134, 3) := by decide +kernel
theorem dL_law_736 : decode cL_law 736 = .ok (.istore 6, 2) := by decide +kernel
theorem dL_law_738 : decode cL_law 738 = .ok (.aload_n 2, 1) := by decide +kernel
theorem dL_law_739 : decode cL_law 739 = .ok (.invokevirtual 101, 3) := by decide +kernel
theorem dL_law_742 : decode cL_law 742 = .ok (.iload 5, 2) := by decide +kernel
theorem dL_law_744 : decode cL_law 744 = .ok (.if_icmp .eq 5, 3) := by decide +kernel
theorem dL_law_747 : decode cL_law 747 = .ok (.iconst 0, 1) := by decide +kernel
theorem dL_law_748 : decode cL_law 748 = .ok (.ireturn, 1) := by decide +kernel
theorem dL_law_749 : decode cL_law 749 = .ok (.iload 5, 2) := by decide +kernel
theorem dL_law_751 : decode cL_law 751 = .ok (.ifCond .ne 15, 3) := by decide +kernel
theorem dL_law_754 : decode cL_law 754 = .ok (.aload_n 3, 1) := by decide +kernel
theorem dL_law_755 : decode cL_law 755 = .ok (.iconst 0, 1) := by decide +kernel
theorem dL_law_756 : decode cL_law 756 = .ok (.laload, 1) := by decide +kernel
theorem dL_law_757 : decode cL_law 757 = .ok (.iload 6, 2) := by decide +kernel
theorem dL_law_759 : decode cL_law 759 = .ok (.i2l, 1) := by decide +kernel
theorem dL_law_760 : decode cL_law 760 = .ok (.lcmp, 1) := by decide +kernel
theorem dL_law_761 : decode cL_law 761 = .ok (.ifCond .eq 5, 3) := by decide +kernel
theorem dL_law_764 : decode cL_law 764 = .ok (.iconst 0, 1) := by decide +kernel
theorem dL_law_765 : decode cL_law 765 = .ok (.ireturn, 1) := by decide +kernel
theorem dL_law_766 : decode cL_law 766 = .ok (.goto 1032, 3) := by decide +kernel
theorem dL_law_769 : decode cL_law 769 = .ok (.aload_n 1, 1) := by decide +kernel
theorem dL_law_770 : decode cL_law 770 = .ok (.aload_n 0, 1) := by decide +kernel
theorem dL_law_771 : decode cL_law 771 = .ok (.iload 4, 2) := by decide +kernel
theorem dL_law_773 : decode cL_law 773 = .ok (.iconst 1, 1) := by decide +kernel
theorem dL_law_774 : decode cL_law 774 = .ok (.iadd, 1) := by decide +kernel
theorem dL_law_775 : decode cL_law 775 = .ok (.iaload, 1) := by decide +kernel
theorem dL_law_776 : decode cL_law 776 = .ok (.aload_n 3, 1) := by decide +kernel
theorem dL_law_777 : decode cL_law 777 = .ok (.invokestatic 135, 3) := by decide +kernel
theorem dL_law_780 : decode cL_law 780 = .ok (.istore 5, 2) := by decide +kernel
theorem dL_law_782 : decode cL_law 782 = .ok (.aload_n 2, 1) := by decide +kernel
theorem dL_law_783 : decode cL_law 783 = .ok (.aload_n 0, 1) := by decide +kernel
theorem dL_law_784 : decode cL_law 784 = .ok (.iload 4, 2) := by decide +kernel
theorem dL_law_786 : decode cL_law 786 = .ok (.iconst 1, 1) := by decide +kernel
theorem dL_law_787 : decode cL_law 787 = .ok (.iadd, 1) := by decide +kernel
theorem dL_law_788 : decode cL_law 788 = .ok (.iaload, 1) := by decide +kernel
theorem dL_law_789 : decode cL_law 789 = .ok (.invokevirtual 137, 3) := by decide +kernel
theorem dL_law_792 : decode cL_law 792 = .ok (.istore 6, 2) := by decide +kernel
theorem dL_law_794 : decode cL_law 794 = .ok (.aload_n 2, 1) := by decide +kernel
theorem dL_law_795 : decode cL_law 795 = .ok (.invokevirtual 101, 3) := by decide +kernel
theorem dL_law_798 : decode cL_law 798 = .ok (.iload 5, 2) := by decide +kernel
theorem dL_law_800 : decode cL_law 800 = .ok (.if_icmp .eq 5, 3) := by decide +kernel
theorem dL_law_803 : decode cL_law 803 = .ok (.iconst 0, 1) := by decide +kernel
theorem dL_law_804 : decode cL_law 804 = .ok (.ireturn, 1) := by decide +kernel
theorem dL_law_805 : decode cL_law 805 = .ok (.iload 5, 2) := by decide +kernel
theorem dL_law_807 : decode cL_law 807 = .ok (.ifCond .ne 15, 3) := by decide +kernel
theorem dL_law_810 : decode cL_law 810 = .ok (.aload_n 3, 1) := by decide +kernel
theorem dL_law_811 : decode cL_law 811 = .ok (.iconst 0, 1) := by decide +kernel
theorem dL_law_812 : decode cL_law 812 = .ok (.laload, 1) := by decide +kernel
theorem dL_law_813 : decode cL_law 813 = .ok (.iload 6, 2) := by decide +kernel
theorem dL_law_815 : decode cL_law 815 = .ok (.i2l, 1) := by decide +kernel
theorem dL_law_816 : decode cL_law 816 = .ok (.lcmp, 1) := by decide +kernel
theorem dL_law_817 : decode cL_law 817 = .ok (.ifCond .eq 5, 3) := by decide +kernel
theorem dL_law_820 : decode cL_law 820 = .ok (.iconst 0, 1) := by decide +kernel
theorem dL_law_821 : decode cL_law 821 = .ok (.ireturn, 1) := by decide +kernel
theorem dL_law_822 : decode cL_law 822 = .ok (.goto 976, 3) := by decide +kernel
theorem dL_law_825 : decode cL_law 825 = .ok (.aload_n 1, 1) := by decide +kernel
theorem dL_law_826 : decode cL_law 826 = .ok (.aload_n 0, 1) := by decide +kernel
theorem dL_law_827 : decode cL_law 827 = .ok (.iload 4, 2) := by decide +kernel
theorem dL_law_829 : decode cL_law 829 = .ok (.iconst 1, 1) := by decide +kernel
theorem dL_law_830 : decode cL_law 830 = .ok (.iadd, 1) := by decide +kernel
theorem dL_law_831 : decode cL_law 831 = .ok (.iaload, 1) := by decide +kernel
theorem dL_law_832 : decode cL_law 832 = .ok (.aload_n 3, 1) := by decide +kernel
theorem dL_law_833 : decode cL_law 833 = .ok (.invokestatic 138, 3) := by decide +kernel
theorem dL_law_836 : decode cL_law 836 = .ok (.istore 5, 2) := by decide +kernel
theorem dL_law_838 : decode cL_law 838 = .ok (.aload_n 2, 1) := by decide +kernel
theorem dL_law_839 : decode cL_law 839 = .ok (.aload_n 0, 1) := by decide +kernel
theorem dL_law_840 : decode cL_law 840 = .ok (.iload 4, 2) := by decide +kernel
theorem dL_law_842 : decode cL_law 842 = .ok (.iconst 1, 1) := by decide +kernel
theorem dL_law_843 : decode cL_law 843 = .ok (.iadd, 1) := by decide +kernel
theorem dL_law_844 : decode cL_law 844 = .ok (.iaload, 1) := by decide +kernel
theorem dL_law_845 : decode cL_law 845 = .ok (.invokevirtual 140, 3) := by decide +kernel
theorem dL_law_848 : decode cL_law 848 = .ok (.istore 6, 2) := by decide +kernel
theorem dL_law_850 : decode cL_law 850 = .ok (.aload_n 2, 1) := by decide +kernel
theorem dL_law_851 : decode cL_law 851 = .ok (.invokevirtual 101, 3) := by decide +kernel
theorem dL_law_854 : decode cL_law 854 = .ok (.iload 5, 2) := by decide +kernel
theorem dL_law_856 : decode cL_law 856 = .ok (.if_icmp .eq 5, 3) := by decide +kernel
theorem dL_law_859 : decode cL_law 859 = .ok (.iconst 0, 1) := by decide +kernel
theorem dL_law_860 : decode cL_law 860 = .ok (.ireturn, 1) := by decide +kernel
theorem dL_law_861 : decode cL_law 861 = .ok (.iload 5, 2) := by decide +kernel
theorem dL_law_863 : decode cL_law 863 = .ok (.ifCond .ne 15, 3) := by decide +kernel
theorem dL_law_866 : decode cL_law 866 = .ok (.aload_n 3, 1) := by decide +kernel
theorem dL_law_867 : decode cL_law 867 = .ok (.iconst 0, 1) := by decide +kernel
theorem dL_law_868 : decode cL_law 868 = .ok (.laload, 1) := by decide +kernel
theorem dL_law_869 : decode cL_law 869 = .ok (.iload 6, 2) := by decide +kernel
theorem dL_law_871 : decode cL_law 871 = .ok (.i2l, 1) := by decide +kernel
theorem dL_law_872 : decode cL_law 872 = .ok (.lcmp, 1) := by decide +kernel
theorem dL_law_873 : decode cL_law 873 = .ok (.ifCond .eq 5, 3) := by decide +kernel
theorem dL_law_876 : decode cL_law 876 = .ok (.iconst 0, 1) := by decide +kernel
theorem dL_law_877 : decode cL_law 877 = .ok (.ireturn, 1) := by decide +kernel
theorem dL_law_878 : decode cL_law 878 = .ok (.goto 920, 3) := by decide +kernel
theorem dL_law_881 : decode cL_law 881 = .ok (.aload_n 1, 1) := by decide +kernel
theorem dL_law_882 : decode cL_law 882 = .ok (.aload_n 0, 1) := by decide +kernel
theorem dL_law_883 : decode cL_law 883 = .ok (.iload 4, 2) := by decide +kernel
theorem dL_law_885 : decode cL_law 885 = .ok (.iconst 1, 1) := by decide +kernel
theorem dL_law_886 : decode cL_law 886 = .ok (.iadd, 1) := by decide +kernel
theorem dL_law_887 : decode cL_law 887 = .ok (.iaload, 1) := by decide +kernel
theorem dL_law_888 : decode cL_law 888 = .ok (.aload_n 3, 1) := by decide +kernel
theorem dL_law_889 : decode cL_law 889 = .ok (.invokestatic 141, 3) := by decide +kernel
theorem dL_law_892 : decode cL_law 892 = .ok (.istore 5, 2) := by decide +kernel
theorem dL_law_894 : decode cL_law 894 = .ok (.aload_n 2, 1) := by decide +kernel
theorem dL_law_895 : decode cL_law 895 = .ok (.aload_n 0, 1) := by decide +kernel
theorem dL_law_896 : decode cL_law 896 = .ok (.iload 4, 2) := by decide +kernel
theorem dL_law_898 : decode cL_law 898 = .ok (.iconst 1, 1) := by decide +kernel
theorem dL_law_899 : decode cL_law 899 = .ok (.iadd, 1) := by decide +kernel
theorem dL_law_900 : decode cL_law 900 = .ok (.iaload, 1) := by decide +kernel
theorem dL_law_901 : decode cL_law 901 = .ok (.invokevirtual 143, 3) := by decide +kernel
theorem dL_law_904 : decode cL_law 904 = .ok (.istore 6, 2) := by decide +kernel
theorem dL_law_906 : decode cL_law 906 = .ok (.aload_n 2, 1) := by decide +kernel
theorem dL_law_907 : decode cL_law 907 = .ok (.invokevirtual 101, 3) := by decide +kernel
theorem dL_law_910 : decode cL_law 910 = .ok (.iload 5, 2) := by decide +kernel
theorem dL_law_912 : decode cL_law 912 = .ok (.if_icmp .eq 5, 3) := by decide +kernel
theorem dL_law_915 : decode cL_law 915 = .ok (.iconst 0, 1) := by decide +kernel
theorem dL_law_916 : decode cL_law 916 = .ok (.ireturn, 1) := by decide +kernel
theorem dL_law_917 : decode cL_law 917 = .ok (.iload 5, 2) := by decide +kernel
theorem dL_law_919 : decode cL_law 919 = .ok (.ifCond .ne 15, 3) := by decide +kernel
theorem dL_law_922 : decode cL_law 922 = .ok (.aload_n 3, 1) := by decide +kernel
theorem dL_law_923 : decode cL_law 923 = .ok (.iconst 0, 1) := by decide +kernel
theorem dL_law_924 : decode cL_law 924 = .ok (.laload, 1) := by decide +kernel
theorem dL_law_925 : decode cL_law 925 = .ok (.iload 6, 2) := by decide +kernel
theorem dL_law_927 : decode cL_law 927 = .ok (.i2l, 1) := by decide +kernel
theorem dL_law_928 : decode cL_law 928 = .ok (.lcmp, 1) := by decide +kernel
theorem dL_law_929 : decode cL_law 929 = .ok (.ifCond .eq 5, 3) := by decide +kernel
theorem dL_law_932 : decode cL_law 932 = .ok (.iconst 0, 1) := by decide +kernel
theorem dL_law_933 : decode cL_law 933 = .ok (.ireturn, 1) := by decide +kernel
theorem dL_law_934 : decode cL_law 934 = .ok (.goto 864, 3) := by decide +kernel
theorem dL_law_937 : decode cL_law 937 = .ok (.aload_n 1, 1) := by decide +kernel
theorem dL_law_938 : decode cL_law 938 = .ok (.aload_n 0, 1) := by decide +kernel
theorem dL_law_939 : decode cL_law 939 = .ok (.iload 4, 2) := by decide +kernel
theorem dL_law_941 : decode cL_law 941 = .ok (.iconst 1, 1) := by decide +kernel
theorem dL_law_942 : decode cL_law 942 = .ok (.iadd, 1) := by decide +kernel
theorem dL_law_943 : decode cL_law 943 = .ok (.iaload, 1) := by decide +kernel
theorem dL_law_944 : decode cL_law 944 = .ok (.aload_n 0, 1) := by decide +kernel
theorem dL_law_945 : decode cL_law 945 = .ok (.iload 4, 2) := by decide +kernel
theorem dL_law_947 : decode cL_law 947 = .ok (.iconst 2, 1) := by decide +kernel
theorem dL_law_948 : decode cL_law 948 = .ok (.iadd, 1) := by decide +kernel
theorem dL_law_949 : decode cL_law 949 = .ok (.iaload, 1) := by decide +kernel
theorem dL_law_950 : decode cL_law 950 = .ok (.aload_n 3, 1) := by decide +kernel
theorem dL_law_951 : decode cL_law 951 = .ok (.invokestatic 144, 3) := by decide +kernel
theorem dL_law_954 : decode cL_law 954 = .ok (.istore 5, 2) := by decide +kernel
theorem dL_law_956 : decode cL_law 956 = .ok (.aload_n 2, 1) := by decide +kernel
theorem dL_law_957 : decode cL_law 957 = .ok (.aload_n 0, 1) := by decide +kernel
theorem dL_law_958 : decode cL_law 958 = .ok (.iload 4, 2) := by decide +kernel
theorem dL_law_960 : decode cL_law 960 = .ok (.iconst 1, 1) := by decide +kernel
theorem dL_law_961 : decode cL_law 961 = .ok (.iadd, 1) := by decide +kernel
theorem dL_law_962 : decode cL_law 962 = .ok (.iaload, 1) := by decide +kernel
theorem dL_law_963 : decode cL_law 963 = .ok (.aload_n 0, 1) := by decide +kernel
theorem dL_law_964 : decode cL_law 964 = .ok (.iload 4, 2) := by decide +kernel
theorem dL_law_966 : decode cL_law 966 = .ok (.iconst 2, 1) := by decide +kernel
theorem dL_law_967 : decode cL_law 967 = .ok (.iadd, 1) := by decide +kernel
theorem dL_law_968 : decode cL_law 968 = .ok (.iaload, 1) := by decide +kernel
theorem dL_law_969 : decode cL_law 969 = .ok (.invokevirtual 146, 3) := by decide +kernel
theorem dL_law_972 : decode cL_law 972 = .ok (.istore 6, 2) := by decide +kernel
theorem dL_law_974 : decode cL_law 974 = .ok (.aload_n 2, 1) := by decide +kernel
theorem dL_law_975 : decode cL_law 975 = .ok (.invokevirtual 101, 3) := by decide +kernel
theorem dL_law_978 : decode cL_law 978 = .ok (.iload 5, 2) := by decide +kernel
theorem dL_law_980 : decode cL_law 980 = .ok (.if_icmp .eq 5, 3) := by decide +kernel
theorem dL_law_983 : decode cL_law 983 = .ok (.iconst 0, 1) := by decide +kernel
theorem dL_law_984 : decode cL_law 984 = .ok (.ireturn, 1) := by decide +kernel
theorem dL_law_985 : decode cL_law 985 = .ok (.iload 5, 2) := by decide +kernel
theorem dL_law_987 : decode cL_law 987 = .ok (.ifCond .ne 15, 3) := by decide +kernel
theorem dL_law_990 : decode cL_law 990 = .ok (.aload_n 3, 1) := by decide +kernel
theorem dL_law_991 : decode cL_law 991 = .ok (.iconst 0, 1) := by decide +kernel
theorem dL_law_992 : decode cL_law 992 = .ok (.laload, 1) := by decide +kernel
theorem dL_law_993 : decode cL_law 993 = .ok (.iload 6, 2) := by decide +kernel
theorem dL_law_995 : decode cL_law 995 = .ok (.i2l, 1) := by decide +kernel
theorem dL_law_996 : decode cL_law 996 = .ok (.lcmp, 1) := by decide +kernel
theorem dL_law_997 : decode cL_law 997 = .ok (.ifCond .eq 5, 3) := by decide +kernel
theorem dL_law_1000 : decode cL_law 1000 = .ok (.iconst 0, 1) := by decide +kernel
theorem dL_law_1001 : decode cL_law 1001 = .ok (.ireturn, 1) := by decide +kernel
theorem dL_law_1002 : decode cL_law 1002 = .ok (.goto 796, 3) := by decide +kernel
theorem dL_law_1005 : decode cL_law 1005 = .ok (.aload_n 1, 1) := by decide +kernel
theorem dL_law_1006 : decode cL_law 1006 = .ok (.aload_n 0, 1) := by decide +kernel
theorem dL_law_1007 : decode cL_law 1007 = .ok (.iload 4, 2) := by decide +kernel
theorem dL_law_1009 : decode cL_law 1009 = .ok (.iconst 1, 1) := by decide +kernel
theorem dL_law_1010 : decode cL_law 1010 = .ok (.iadd, 1) := by decide +kernel
theorem dL_law_1011 : decode cL_law 1011 = .ok (.iaload, 1) := by decide +kernel
theorem dL_law_1012 : decode cL_law 1012 = .ok (.aload_n 0, 1) := by decide +kernel
theorem dL_law_1013 : decode cL_law 1013 = .ok (.iload 4, 2) := by decide +kernel
theorem dL_law_1015 : decode cL_law 1015 = .ok (.iconst 2, 1) := by decide +kernel
theorem dL_law_1016 : decode cL_law 1016 = .ok (.iadd, 1) := by decide +kernel
theorem dL_law_1017 : decode cL_law 1017 = .ok (.iaload, 1) := by decide +kernel
theorem dL_law_1018 : decode cL_law 1018 = .ok (.aload_n 3, 1) := by decide +kernel
theorem dL_law_1019 : decode cL_law 1019 = .ok (.invokestatic 147, 3) := by decide +kernel
theorem dL_law_1022 : decode cL_law 1022 = .ok (.istore 5, 2) := by decide +kernel
theorem dL_law_1024 : decode cL_law 1024 = .ok (.aload_n 2, 1) := by decide +kernel
theorem dL_law_1025 : decode cL_law 1025 = .ok (.aload_n 0, 1) := by decide +kernel
theorem dL_law_1026 : decode cL_law 1026 = .ok (.iload 4, 2) := by decide +kernel
theorem dL_law_1028 : decode cL_law 1028 = .ok (.iconst 1, 1) := by decide +kernel
theorem dL_law_1029 : decode cL_law 1029 = .ok (.iadd, 1) := by decide +kernel
theorem dL_law_1030 : decode cL_law 1030 = .ok (.iaload, 1) := by decide +kernel
theorem dL_law_1031 : decode cL_law 1031 = .ok (.aload_n 0, 1) := by decide +kernel
theorem dL_law_1032 : decode cL_law 1032 = .ok (.iload 4, 2) := by decide +kernel
theorem dL_law_1034 : decode cL_law 1034 = .ok (.iconst 2, 1) := by decide +kernel
theorem dL_law_1035 : decode cL_law 1035 = .ok (.iadd, 1) := by decide +kernel
theorem dL_law_1036 : decode cL_law 1036 = .ok (.iaload, 1) := by decide +kernel
theorem dL_law_1037 : decode cL_law 1037 = .ok (.invokevirtual 149, 3) := by decide +kernel
theorem dL_law_1040 : decode cL_law 1040 = .ok (.istore 6, 2) := by decide +kernel
theorem dL_law_1042 : decode cL_law 1042 = .ok (.aload_n 2, 1) := by decide +kernel
theorem dL_law_1043 : decode cL_law 1043 = .ok (.invokevirtual 101, 3) := by decide +kernel
theorem dL_law_1046 : decode cL_law 1046 = .ok (.iload 5, 2) := by decide +kernel
theorem dL_law_1048 : decode cL_law 1048 = .ok (.if_icmp .eq 5, 3) := by decide +kernel
theorem dL_law_1051 : decode cL_law 1051 = .ok (.iconst 0, 1) := by decide +kernel
theorem dL_law_1052 : decode cL_law 1052 = .ok (.ireturn, 1) := by decide +kernel
theorem dL_law_1053 : decode cL_law 1053 = .ok (.iload 5, 2) := by decide +kernel
theorem dL_law_1055 : decode cL_law 1055 = .ok (.ifCond .ne 15, 3) := by decide +kernel
theorem dL_law_1058 : decode cL_law 1058 = .ok (.aload_n 3, 1) := by decide +kernel
theorem dL_law_1059 : decode cL_law 1059 = .ok (.iconst 0, 1) := by decide +kernel
theorem dL_law_1060 : decode cL_law 1060 = .ok (.laload, 1) := by decide +kernel
theorem dL_law_1061 : decode cL_law 1061 = .ok (.iload 6, 2) := by decide +kernel
theorem dL_law_1063 : decode cL_law 1063 = .ok (.i2l, 1) := by decide +kernel
theorem dL_law_1064 : decode cL_law 1064 = .ok (.lcmp, 1) := by decide +kernel
theorem dL_law_1065 : decode cL_law 1065 = .ok (.ifCond .eq 5, 3) := by decide +kernel
theorem dL_law_1068 : decode cL_law 1068 = .ok (.iconst 0, 1) := by decide +kernel
theorem dL_law_1069 : decode cL_law 1069 = .ok (.ireturn, 1) := by decide +kernel
theorem dL_law_1070 : decode cL_law 1070 = .ok (.goto 728, 3) := by decide +kernel
theorem dL_law_1073 : decode cL_law 1073 = .ok (.aload_n 1, 1) := by decide +kernel
theorem dL_law_1074 : decode cL_law 1074 = .ok (.aload_n 0, 1) := by decide +kernel
theorem dL_law_1075 : decode cL_law 1075 = .ok (.iload 4, 2) := by decide +kernel
theorem dL_law_1077 : decode cL_law 1077 = .ok (.iconst 1, 1) := by decide +kernel
theorem dL_law_1078 : decode cL_law 1078 = .ok (.iadd, 1) := by decide +kernel
theorem dL_law_1079 : decode cL_law 1079 = .ok (.iaload, 1) := by decide +kernel
theorem dL_law_1080 : decode cL_law 1080 = .ok (.aload_n 3, 1) := by decide +kernel
theorem dL_law_1081 : decode cL_law 1081 = .ok (.invokestatic 150, 3) := by decide +kernel
theorem dL_law_1084 : decode cL_law 1084 = .ok (.istore 5, 2) := by decide +kernel
theorem dL_law_1086 : decode cL_law 1086 = .ok (.aload_n 2, 1) := by decide +kernel
theorem dL_law_1087 : decode cL_law 1087 = .ok (.aload_n 0, 1) := by decide +kernel
theorem dL_law_1088 : decode cL_law 1088 = .ok (.iload 4, 2) := by decide +kernel
theorem dL_law_1090 : decode cL_law 1090 = .ok (.iconst 1, 1) := by decide +kernel
theorem dL_law_1091 : decode cL_law 1091 = .ok (.iadd, 1) := by decide +kernel
theorem dL_law_1092 : decode cL_law 1092 = .ok (.iaload, 1) := by decide +kernel
theorem dL_law_1093 : decode cL_law 1093 = .ok (.invokevirtual 152, 3) := by decide +kernel
theorem dL_law_1096 : decode cL_law 1096 = .ok (.istore 6, 2) := by decide +kernel
theorem dL_law_1098 : decode cL_law 1098 = .ok (.aload_n 2, 1) := by decide +kernel
theorem dL_law_1099 : decode cL_law 1099 = .ok (.invokevirtual 101, 3) := by decide +kernel
theorem dL_law_1102 : decode cL_law 1102 = .ok (.iload 5, 2) := by decide +kernel
theorem dL_law_1104 : decode cL_law 1104 = .ok (.if_icmp .eq 5, 3) := by decide +kernel
theorem dL_law_1107 : decode cL_law 1107 = .ok (.iconst 0, 1) := by decide +kernel
theorem dL_law_1108 : decode cL_law 1108 = .ok (.ireturn, 1) := by decide +kernel
theorem dL_law_1109 : decode cL_law 1109 = .ok (.iload 5, 2) := by decide +kernel
theorem dL_law_1111 : decode cL_law 1111 = .ok (.ifCond .ne 15, 3) := by decide +kernel
theorem dL_law_1114 : decode cL_law 1114 = .ok (.aload_n 3, 1) := by decide +kernel
theorem dL_law_1115 : decode cL_law 1115 = .ok (.iconst 0, 1) := by decide +kernel
theorem dL_law_1116 : decode cL_law 1116 = .ok (.laload, 1) := by decide +kernel
theorem dL_law_1117 : decode cL_law 1117 = .ok (.iload 6, 2) := by decide +kernel
theorem dL_law_1119 : decode cL_law 1119 = .ok (.i2l, 1) := by decide +kernel
theorem dL_law_1120 : decode cL_law 1120 = .ok (.lcmp, 1) := by decide +kernel
theorem dL_law_1121 : decode cL_law 1121 = .ok (.ifCond .eq 5, 3) := by decide +kernel
theorem dL_law_1124 : decode cL_law 1124 = .ok (.iconst 0, 1) := by decide +kernel
theorem dL_law_1125 : decode cL_law 1125 = .ok (.ireturn, 1) := by decide +kernel
theorem dL_law_1126 : decode cL_law 1126 = .ok (.goto 672, 3) := by decide +kernel
theorem dL_law_1129 : decode cL_law 1129 = .ok (.aload_n 1, 1) := by decide +kernel
theorem dL_law_1130 : decode cL_law 1130 = .ok (.invokevirtual 153, 3) := by decide +kernel
theorem dL_law_1133 : decode cL_law 1133 = .ok (.aload_n 2, 1) := by decide +kernel
theorem dL_law_1134 : decode cL_law 1134 = .ok (.invokevirtual 156, 3) := by decide +kernel
theorem dL_law_1137 : decode cL_law 1137 = .ok (.if_icmp .eq 661, 3) := by decide +kernel
theorem dL_law_1140 : decode cL_law 1140 = .ok (.iconst 0, 1) := by decide +kernel
theorem dL_law_1141 : decode cL_law 1141 = .ok (.ireturn, 1) := by decide +kernel
theorem dL_law_1142 : decode cL_law 1142 = .ok (.aload_n 1, 1) := by decide +kernel
theorem dL_law_1143 : decode cL_law 1143 = .ok (.invokevirtual 157, 3) := by decide +kernel
theorem dL_law_1146 : decode cL_law 1146 = .ok (.aload_n 2, 1) := by decide +kernel
theorem dL_law_1147 : decode cL_law 1147 = .ok (.invokevirtual 160, 3) := by decide +kernel
theorem dL_law_1150 : decode cL_law 1150 = .ok (.if_icmp .eq 648, 3) := by decide +kernel
theorem dL_law_1153 : decode cL_law 1153 = .ok (.iconst 0, 1) := by decide +kernel
theorem dL_law_1154 : decode cL_law 1154 = .ok (.ireturn, 1) := by decide +kernel
theorem dL_law_1155 : decode cL_law 1155 = .ok (.aload_n 1, 1) := by decide +kernel
theorem dL_law_1156 : decode cL_law 1156 = .ok (.aload_n 3, 1) := by decide +kernel
theorem dL_law_1157 : decode cL_law 1157 = .ok (.invokestatic 161, 3) := by decide +kernel
theorem dL_law_1160 : decode cL_law 1160 = .ok (.istore 5, 2) := by decide +kernel
theorem dL_law_1162 : decode cL_law 1162 = .ok (.aload_n 2, 1) := by decide +kernel
theorem dL_law_1163 : decode cL_law 1163 = .ok (.invokevirtual 163, 3) := by decide +kernel
theorem dL_law_1166 : decode cL_law 1166 = .ok (.istore 6, 2) := by decide +kernel
theorem dL_law_1168 : decode cL_law 1168 = .ok (.aload_n 2, 1) := by decide +kernel
theorem dL_law_1169 : decode cL_law 1169 = .ok (.invokevirtual 101, 3) := by decide +kernel
theorem dL_law_1172 : decode cL_law 1172 = .ok (.iload 5, 2) := by decide +kernel
theorem dL_law_1174 : decode cL_law 1174 = .ok (.if_icmp .eq 5, 3) := by decide +kernel
theorem dL_law_1177 : decode cL_law 1177 = .ok (.iconst 0, 1) := by decide +kernel
theorem dL_law_1178 : decode cL_law 1178 = .ok (.ireturn, 1) := by decide +kernel
theorem dL_law_1179 : decode cL_law 1179 = .ok (.iload 5, 2) := by decide +kernel
theorem dL_law_1181 : decode cL_law 1181 = .ok (.ifCond .ne 15, 3) := by decide +kernel
theorem dL_law_1184 : decode cL_law 1184 = .ok (.aload_n 3, 1) := by decide +kernel
theorem dL_law_1185 : decode cL_law 1185 = .ok (.iconst 0, 1) := by decide +kernel
theorem dL_law_1186 : decode cL_law 1186 = .ok (.laload, 1) := by decide +kernel
theorem dL_law_1187 : decode cL_law 1187 = .ok (.iload 6, 2) := by decide +kernel
theorem dL_law_1189 : decode cL_law 1189 = .ok (.i2l, 1) := by decide +kernel
theorem dL_law_1190 : decode cL_law 1190 = .ok (.lcmp, 1) := by decide +kernel
theorem dL_law_1191 : decode cL_law 1191 = .ok (.ifCond .eq 5, 3) := by decide +kernel
theorem dL_law_1194 : decode cL_law 1194 = .ok (.iconst 0, 1) := by decide +kernel
theorem dL_law_1195 : decode cL_law 1195 = .ok (.ireturn, 1) := by decide +kernel
theorem dL_law_1196 : decode cL_law 1196 = .ok (.goto 602, 3) := by decide +kernel
theorem dL_law_1199 : decode cL_law 1199 = .ok (.aload_n 1, 1) := by decide +kernel
theorem dL_law_1200 : decode cL_law 1200 = .ok (.aload_n 0, 1) := by decide +kernel
theorem dL_law_1201 : decode cL_law 1201 = .ok (.iload 4, 2) := by decide +kernel
theorem dL_law_1203 : decode cL_law 1203 = .ok (.iconst 1, 1) := by decide +kernel
theorem dL_law_1204 : decode cL_law 1204 = .ok (.iadd, 1) := by decide +kernel
theorem dL_law_1205 : decode cL_law 1205 = .ok (.iaload, 1) := by decide +kernel
theorem dL_law_1206 : decode cL_law 1206 = .ok (.aload_n 0, 1) := by decide +kernel
theorem dL_law_1207 : decode cL_law 1207 = .ok (.iload 4, 2) := by decide +kernel
theorem dL_law_1209 : decode cL_law 1209 = .ok (.iconst 2, 1) := by decide +kernel
theorem dL_law_1210 : decode cL_law 1210 = .ok (.iadd, 1) := by decide +kernel
theorem dL_law_1211 : decode cL_law 1211 = .ok (.iaload, 1) := by decide +kernel
theorem dL_law_1212 : decode cL_law 1212 = .ok (.aload_n 3, 1) := by decide +kernel
theorem dL_law_1213 : decode cL_law 1213 = .ok (.invokestatic 164, 3) := by decide +kernel
theorem dL_law_1216 : decode cL_law 1216 = .ok (.istore 5, 2) := by decide +kernel
theorem dL_law_1218 : decode cL_law 1218 = .ok (.aload_n 2, 1) := by decide +kernel
theorem dL_law_1219 : decode cL_law 1219 = .ok (.aload_n 0, 1) := by decide +kernel
theorem dL_law_1220 : decode cL_law 1220 = .ok (.iload 4, 2) := by decide +kernel
theorem dL_law_1222 : decode cL_law 1222 = .ok (.iconst 1, 1) := by decide +kernel
theorem dL_law_1223 : decode cL_law 1223 = .ok (.iadd, 1) := by decide +kernel
theorem dL_law_1224 : decode cL_law 1224 = .ok (.iaload, 1) := by decide +kernel
theorem dL_law_1225 : decode cL_law 1225 = .ok (.aload_n 0, 1) := by decide +kernel
theorem dL_law_1226 : decode cL_law 1226 = .ok (.iload 4, 2) := by decide +kernel
theorem dL_law_1228 : decode cL_law 1228 = .ok (.iconst 2, 1) := by decide +kernel
theorem dL_law_1229 : decode cL_law 1229 = .ok (.iadd, 1) := by decide +kernel
theorem dL_law_1230 : decode cL_law 1230 = .ok (.iaload, 1) := by decide +kernel
theorem dL_law_1231 : decode cL_law 1231 = .ok (.invokevirtual 166, 3) := by decide +kernel
theorem dL_law_1234 : decode cL_law 1234 = .ok (.istore 6, 2) := by decide +kernel
theorem dL_law_1236 : decode cL_law 1236 = .ok (.aload_n 2, 1) := by decide +kernel
theorem dL_law_1237 : decode cL_law 1237 = .ok (.invokevirtual 101, 3) := by decide +kernel
theorem dL_law_1240 : decode cL_law 1240 = .ok (.iload 5, 2) := by decide +kernel
theorem dL_law_1242 : decode cL_law 1242 = .ok (.if_icmp .eq 5, 3) := by decide +kernel
theorem dL_law_1245 : decode cL_law 1245 = .ok (.iconst 0, 1) := by decide +kernel
theorem dL_law_1246 : decode cL_law 1246 = .ok (.ireturn, 1) := by decide +kernel
theorem dL_law_1247 : decode cL_law 1247 = .ok (.iload 5, 2) := by decide +kernel
theorem dL_law_1249 : decode cL_law 1249 = .ok (.ifCond .ne 15, 3) := by decide +kernel
theorem dL_law_1252 : decode cL_law 1252 = .ok (.aload_n 3, 1) := by decide +kernel
theorem dL_law_1253 : decode cL_law 1253 = .ok (.iconst 0, 1) := by decide +kernel
theorem dL_law_1254 : decode cL_law 1254 = .ok (.laload, 1) := by decide +kernel
theorem dL_law_1255 : decode cL_law 1255 = .ok (.iload 6, 2) := by decide +kernel
theorem dL_law_1257 : decode cL_law 1257 = .ok (.i2l, 1) := by decide +kernel
theorem dL_law_1258 : decode cL_law 1258 = .ok (.lcmp, 1) := by decide +kernel
theorem dL_law_1259 : decode cL_law 1259 = .ok (.ifCond .eq 5, 3) := by decide +kernel
theorem dL_law_1262 : decode cL_law 1262 = .ok (.iconst 0, 1) := by decide +kernel
theorem dL_law_1263 : decode cL_law 1263 = .ok (.ireturn, 1) := by decide +kernel
theorem dL_law_1264 : decode cL_law 1264 = .ok (.goto 534, 3) := by decide +kernel
theorem dL_law_1267 : decode cL_law 1267 = .ok (.aload_n 1, 1) := by decide +kernel
theorem dL_law_1268 : decode cL_law 1268 = .ok (.aload_n 0, 1) := by decide +kernel
theorem dL_law_1269 : decode cL_law 1269 = .ok (.iload 4, 2) := by decide +kernel
theorem dL_law_1271 : decode cL_law 1271 = .ok (.iconst 1, 1) := by decide +kernel
theorem dL_law_1272 : decode cL_law 1272 = .ok (.iadd, 1) := by decide +kernel
theorem dL_law_1273 : decode cL_law 1273 = .ok (.iaload, 1) := by decide +kernel
theorem dL_law_1274 : decode cL_law 1274 = .ok (.aload_n 0, 1) := by decide +kernel
theorem dL_law_1275 : decode cL_law 1275 = .ok (.iload 4, 2) := by decide +kernel
theorem dL_law_1277 : decode cL_law 1277 = .ok (.iconst 2, 1) := by decide +kernel
theorem dL_law_1278 : decode cL_law 1278 = .ok (.iadd, 1) := by decide +kernel
theorem dL_law_1279 : decode cL_law 1279 = .ok (.iaload, 1) := by decide +kernel
theorem dL_law_1280 : decode cL_law 1280 = .ok (.aload_n 3, 1) := by decide +kernel
theorem dL_law_1281 : decode cL_law 1281 = .ok (.invokestatic 167, 3) := by decide +kernel
theorem dL_law_1284 : decode cL_law 1284 = .ok (.istore 5, 2) := by decide +kernel
theorem dL_law_1286 : decode cL_law 1286 = .ok (.aload_n 2, 1) := by decide +kernel
theorem dL_law_1287 : decode cL_law 1287 = .ok (.aload_n 0, 1) := by decide +kernel
theorem dL_law_1288 : decode cL_law 1288 = .ok (.iload 4, 2) := by decide +kernel
theorem dL_law_1290 : decode cL_law 1290 = .ok (.iconst 1, 1) := by decide +kernel
theorem dL_law_1291 : decode cL_law 1291 = .ok (.iadd, 1) := by decide +kernel
theorem dL_law_1292 : decode cL_law 1292 = .ok (.iaload, 1) := by decide +kernel
theorem dL_law_1293 : decode cL_law 1293 = .ok (.aload_n 0, 1) := by decide +kernel
theorem dL_law_1294 : decode cL_law 1294 = .ok (.iload 4, 2) := by decide +kernel
theorem dL_law_1296 : decode cL_law 1296 = .ok (.iconst 2, 1) := by decide +kernel
theorem dL_law_1297 : decode cL_law 1297 = .ok (.iadd, 1) := by decide +kernel
theorem dL_law_1298 : decode cL_law 1298 = .ok (.iaload, 1) := by decide +kernel
theorem dL_law_1299 : decode cL_law 1299 = .ok (.invokevirtual 169, 3) := by decide +kernel
theorem dL_law_1302 : decode cL_law 1302 = .ok (.istore 6, 2) := by decide +kernel
theorem dL_law_1304 : decode cL_law 1304 = .ok (.aload_n 2, 1) := by decide +kernel
theorem dL_law_1305 : decode cL_law 1305 = .ok (.invokevirtual 101, 3) := by decide +kernel
theorem dL_law_1308 : decode cL_law 1308 = .ok (.iload 5, 2) := by decide +kernel
theorem dL_law_1310 : decode cL_law 1310 = .ok (.if_icmp .eq 5, 3) := by decide +kernel
theorem dL_law_1313 : decode cL_law 1313 = .ok (.iconst 0, 1) := by decide +kernel
theorem dL_law_1314 : decode cL_law 1314 = .ok (.ireturn, 1) := by decide +kernel
theorem dL_law_1315 : decode cL_law 1315 = .ok (.iload 5, 2) := by decide +kernel
theorem dL_law_1317 : decode cL_law 1317 = .ok (.ifCond .ne 15, 3) := by decide +kernel
theorem dL_law_1320 : decode cL_law 1320 = .ok (.aload_n 3, 1) := by decide +kernel
theorem dL_law_1321 : decode cL_law 1321 = .ok (.iconst 0, 1) := by decide +kernel
theorem dL_law_1322 : decode cL_law 1322 = .ok (.laload, 1) := by decide +kernel
theorem dL_law_1323 : decode cL_law 1323 = .ok (.iload 6, 2) := by decide +kernel
theorem dL_law_1325 : decode cL_law 1325 = .ok (.i2l, 1) := by decide +kernel
theorem dL_law_1326 : decode cL_law 1326 = .ok (.lcmp, 1) := by decide +kernel
theorem dL_law_1327 : decode cL_law 1327 = .ok (.ifCond .eq 5, 3) := by decide +kernel
theorem dL_law_1330 : decode cL_law 1330 = .ok (.iconst 0, 1) := by decide +kernel
theorem dL_law_1331 : decode cL_law 1331 = .ok (.ireturn, 1) := by decide +kernel
theorem dL_law_1332 : decode cL_law 1332 = .ok (.goto 466, 3) := by decide +kernel
theorem dL_law_1335 : decode cL_law 1335 = .ok (.aload_n 1, 1) := by decide +kernel
theorem dL_law_1336 : decode cL_law 1336 = .ok (.aload_n 0, 1) := by decide +kernel
theorem dL_law_1337 : decode cL_law 1337 = .ok (.iload 4, 2) := by decide +kernel
theorem dL_law_1339 : decode cL_law 1339 = .ok (.iconst 1, 1) := by decide +kernel
theorem dL_law_1340 : decode cL_law 1340 = .ok (.iadd, 1) := by decide +kernel
theorem dL_law_1341 : decode cL_law 1341 = .ok (.iaload, 1) := by decide +kernel
theorem dL_law_1342 : decode cL_law 1342 = .ok (.aload_n 0, 1) := by decide +kernel
theorem dL_law_1343 : decode cL_law 1343 = .ok (.iload 4, 2) := by decide +kernel
theorem dL_law_1345 : decode cL_law 1345 = .ok (.iconst 2, 1) := by decide +kernel
theorem dL_law_1346 : decode cL_law 1346 = .ok (.iadd, 1) := by decide +kernel
theorem dL_law_1347 : decode cL_law 1347 = .ok (.iaload, 1) := by decide +kernel
theorem dL_law_1348 : decode cL_law 1348 = .ok (.aload_n 0, 1) := by decide +kernel
theorem dL_law_1349 : decode cL_law 1349 = .ok (.iload 4, 2) := by decide +kernel
theorem dL_law_1351 : decode cL_law 1351 = .ok (.iconst 3, 1) := by decide +kernel
theorem dL_law_1352 : decode cL_law 1352 = .ok (.iadd, 1) := by decide +kernel
theorem dL_law_1353 : decode cL_law 1353 = .ok (.iaload, 1) := by decide +kernel
theorem dL_law_1354 : decode cL_law 1354 = .ok (.aload_n 3, 1) := by decide +kernel
theorem dL_law_1355 : decode cL_law 1355 = .ok (.invokestatic 170, 3) := by decide +kernel
theorem dL_law_1358 : decode cL_law 1358 = .ok (.istore 5, 2) := by decide +kernel
theorem dL_law_1360 : decode cL_law 1360 = .ok (.aload_n 2, 1) := by decide +kernel
theorem dL_law_1361 : decode cL_law 1361 = .ok (.aload_n 0, 1) := by decide +kernel
theorem dL_law_1362 : decode cL_law 1362 = .ok (.iload 4, 2) := by decide +kernel
theorem dL_law_1364 : decode cL_law 1364 = .ok (.iconst 1, 1) := by decide +kernel
theorem dL_law_1365 : decode cL_law 1365 = .ok (.iadd, 1) := by decide +kernel
theorem dL_law_1366 : decode cL_law 1366 = .ok (.iaload, 1) := by decide +kernel
theorem dL_law_1367 : decode cL_law 1367 = .ok (.aload_n 0, 1) := by decide +kernel
theorem dL_law_1368 : decode cL_law 1368 = .ok (.iload 4, 2) := by decide +kernel
theorem dL_law_1370 : decode cL_law 1370 = .ok (.iconst 2, 1) := by decide +kernel
theorem dL_law_1371 : decode cL_law 1371 = .ok (.iadd, 1) := by decide +kernel
theorem dL_law_1372 : decode cL_law 1372 = .ok (.iaload, 1) := by decide +kernel
theorem dL_law_1373 : decode cL_law 1373 = .ok (.aload_n 0, 1) := by decide +kernel
theorem dL_law_1374 : decode cL_law 1374 = .ok (.iload 4, 2) := by decide +kernel
theorem dL_law_1376 : decode cL_law 1376 = .ok (.iconst 3, 1) := by decide +kernel
theorem dL_law_1377 : decode cL_law 1377 = .ok (.iadd, 1) := by decide +kernel
theorem dL_law_1378 : decode cL_law 1378 = .ok (.iaload, 1) := by decide +kernel
theorem dL_law_1379 : decode cL_law 1379 = .ok (.invokevirtual 172, 3) := by decide +kernel
theorem dL_law_1382 : decode cL_law 1382 = .ok (.istore 6, 2) := by decide +kernel
theorem dL_law_1384 : decode cL_law 1384 = .ok (.aload_n 2, 1) := by decide +kernel
theorem dL_law_1385 : decode cL_law 1385 = .ok (.invokevirtual 101, 3) := by decide +kernel
theorem dL_law_1388 : decode cL_law 1388 = .ok (.iload 5, 2) := by decide +kernel
theorem dL_law_1390 : decode cL_law 1390 = .ok (.if_icmp .eq 5, 3) := by decide +kernel
theorem dL_law_1393 : decode cL_law 1393 = .ok (.iconst 0, 1) := by decide +kernel
theorem dL_law_1394 : decode cL_law 1394 = .ok (.ireturn, 1) := by decide +kernel
theorem dL_law_1395 : decode cL_law 1395 = .ok (.iload 5, 2) := by decide +kernel
theorem dL_law_1397 : decode cL_law 1397 = .ok (.ifCond .ne 15, 3) := by decide +kernel
theorem dL_law_1400 : decode cL_law 1400 = .ok (.aload_n 3, 1) := by decide +kernel
theorem dL_law_1401 : decode cL_law 1401 = .ok (.iconst 0, 1) := by decide +kernel
theorem dL_law_1402 : decode cL_law 1402 = .ok (.laload, 1) := by decide +kernel
theorem dL_law_1403 : decode cL_law 1403 = .ok (.iload 6, 2) := by decide +kernel
theorem dL_law_1405 : decode cL_law 1405 = .ok (.i2l, 1) := by decide +kernel
theorem dL_law_1406 : decode cL_law 1406 = .ok (.lcmp, 1) := by decide +kernel
theorem dL_law_1407 : decode cL_law 1407 = .ok (.ifCond .eq 5, 3) := by decide +kernel
theorem dL_law_1410 : decode cL_law 1410 = .ok (.iconst 0, 1) := by decide +kernel
theorem dL_law_1411 : decode cL_law 1411 = .ok (.ireturn, 1) := by decide +kernel
theorem dL_law_1412 : decode cL_law 1412 = .ok (.goto 386, 3) := by decide +kernel
theorem dL_law_1415 : decode cL_law 1415 = .ok (.aload_n 1, 1) := by decide +kernel
theorem dL_law_1416 : decode cL_law 1416 = .ok (.aload_n 0, 1) := by decide +kernel
theorem dL_law_1417 : decode cL_law 1417 = .ok (.iload 4, 2) := by decide +kernel
theorem dL_law_1419 : decode cL_law 1419 = .ok (.iconst 1, 1) := by decide +kernel
theorem dL_law_1420 : decode cL_law 1420 = .ok (.iadd, 1) := by decide +kernel
theorem dL_law_1421 : decode cL_law 1421 = .ok (.iaload, 1) := by decide +kernel
theorem dL_law_1422 : decode cL_law 1422 = .ok (.aload_n 3, 1) := by decide +kernel
theorem dL_law_1423 : decode cL_law 1423 = .ok (.invokestatic 173, 3) := by decide +kernel
theorem dL_law_1426 : decode cL_law 1426 = .ok (.istore 5, 2) := by decide +kernel
theorem dL_law_1428 : decode cL_law 1428 = .ok (.aload_n 2, 1) := by decide +kernel
theorem dL_law_1429 : decode cL_law 1429 = .ok (.aload_n 0, 1) := by decide +kernel
theorem dL_law_1430 : decode cL_law 1430 = .ok (.iload 4, 2) := by decide +kernel
theorem dL_law_1432 : decode cL_law 1432 = .ok (.iconst 1, 1) := by decide +kernel
theorem dL_law_1433 : decode cL_law 1433 = .ok (.iadd, 1) := by decide +kernel
theorem dL_law_1434 : decode cL_law 1434 = .ok (.iaload, 1) := by decide +kernel
theorem dL_law_1435 : decode cL_law 1435 = .ok (.invokevirtual 175, 3) := by decide +kernel
theorem dL_law_1438 : decode cL_law 1438 = .ok (.istore 6, 2) := by decide +kernel
theorem dL_law_1440 : decode cL_law 1440 = .ok (.aload_n 2, 1) := by decide +kernel
theorem dL_law_1441 : decode cL_law 1441 = .ok (.invokevirtual 101, 3) := by decide +kernel
theorem dL_law_1444 : decode cL_law 1444 = .ok (.iload 5, 2) := by decide +kernel
theorem dL_law_1446 : decode cL_law 1446 = .ok (.if_icmp .eq 5, 3) := by decide +kernel
theorem dL_law_1449 : decode cL_law 1449 = .ok (.iconst 0, 1) := by decide +kernel
theorem dL_law_1450 : decode cL_law 1450 = .ok (.ireturn, 1) := by decide +kernel
theorem dL_law_1451 : decode cL_law 1451 = .ok (.iload 5, 2) := by decide +kernel
theorem dL_law_1453 : decode cL_law 1453 = .ok (.ifCond .ne 15, 3) := by decide +kernel
theorem dL_law_1456 : decode cL_law 1456 = .ok (.aload_n 3, 1) := by decide +kernel
theorem dL_law_1457 : decode cL_law 1457 = .ok (.iconst 0, 1) := by decide +kernel
theorem dL_law_1458 : decode cL_law 1458 = .ok (.laload, 1) := by decide +kernel
theorem dL_law_1459 : decode cL_law 1459 = .ok (.iload 6, 2) := by decide +kernel
theorem dL_law_1461 : decode cL_law 1461 = .ok (.i2l, 1) := by decide +kernel
theorem dL_law_1462 : decode cL_law 1462 = .ok (.lcmp, 1) := by decide +kernel
theorem dL_law_1463 : decode cL_law 1463 = .ok (.ifCond .eq 5, 3) := by decide +kernel
theorem dL_law_1466 : decode cL_law 1466 = .ok (.iconst 0, 1) := by decide +kernel
theorem dL_law_1467 : decode cL_law 1467 = .ok (.ireturn, 1) := by decide +kernel
theorem dL_law_1468 : decode cL_law 1468 = .ok (.goto 330, 3) := by decide +kernel
theorem dL_law_1471 : decode cL_law 1471 = .ok (.aload_n 1, 1) := by decide +kernel
theorem dL_law_1472 : decode cL_law 1472 = .ok (.aload_n 0, 1) := by decide +kernel
theorem dL_law_1473 : decode cL_law 1473 = .ok (.iload 4, 2) := by decide +kernel
theorem dL_law_1475 : decode cL_law 1475 = .ok (.iconst 1, 1) := by decide +kernel
theorem dL_law_1476 : decode cL_law 1476 = .ok (.iadd, 1) := by decide +kernel
theorem dL_law_1477 : decode cL_law 1477 = .ok (.iaload, 1) := by decide +kernel
theorem dL_law_1478 : decode cL_law 1478 = .ok (.aload_n 3, 1) := by decide +kernel
theorem dL_law_1479 : decode cL_law 1479 = .ok (.invokestatic 176, 3) := by decide +kernel
theorem dL_law_1482 : decode cL_law 1482 = .ok (.istore 5, 2) := by decide +kernel
theorem dL_law_1484 : decode cL_law 1484 = .ok (.aload_n 2, 1) := by decide +kernel
theorem dL_law_1485 : decode cL_law 1485 = .ok (.aload_n 0, 1) := by decide +kernel
theorem dL_law_1486 : decode cL_law 1486 = .ok (.iload 4, 2) := by decide +kernel
theorem dL_law_1488 : decode cL_law 1488 = .ok (.iconst 1, 1) := by decide +kernel
theorem dL_law_1489 : decode cL_law 1489 = .ok (.iadd, 1) := by decide +kernel
theorem dL_law_1490 : decode cL_law 1490 = .ok (.iaload, 1) := by decide +kernel
theorem dL_law_1491 : decode cL_law 1491 = .ok (.invokevirtual 178, 3) := by decide +kernel
theorem dL_law_1494 : decode cL_law 1494 = .ok (.istore 6, 2) := by decide +kernel
theorem dL_law_1496 : decode cL_law 1496 = .ok (.aload_n 2, 1) := by decide +kernel
theorem dL_law_1497 : decode cL_law 1497 = .ok (.invokevirtual 101, 3) := by decide +kernel
theorem dL_law_1500 : decode cL_law 1500 = .ok (.iload 5, 2) := by decide +kernel
theorem dL_law_1502 : decode cL_law 1502 = .ok (.if_icmp .eq 5, 3) := by decide +kernel
theorem dL_law_1505 : decode cL_law 1505 = .ok (.iconst 0, 1) := by decide +kernel
theorem dL_law_1506 : decode cL_law 1506 = .ok (.ireturn, 1) := by decide +kernel
theorem dL_law_1507 : decode cL_law 1507 = .ok (.iload 5, 2) := by decide +kernel
theorem dL_law_1509 : decode cL_law 1509 = .ok (.ifCond .ne 15, 3) := by decide +kernel
theorem dL_law_1512 : decode cL_law 1512 = .ok (.aload_n 3, 1) := by decide +kernel
theorem dL_law_1513 : decode cL_law 1513 = .ok (.iconst 0, 1) := by decide +kernel
theorem dL_law_1514 : decode cL_law 1514 = .ok (.laload, 1) := by decide +kernel
theorem dL_law_1515 : decode cL_law 1515 = .ok (.iload 6, 2) := by decide +kernel
theorem dL_law_1517 : decode cL_law 1517 = .ok (.i2l, 1) := by decide +kernel
theorem dL_law_1518 : decode cL_law 1518 = .ok (.lcmp, 1) := by decide +kernel
theorem dL_law_1519 : decode cL_law 1519 = .ok (.ifCond .eq 5, 3) := by decide +kernel
theorem dL_law_1522 : decode cL_law 1522 = .ok (.iconst 0, 1) := by decide +kernel
theorem dL_law_1523 : decode cL_law 1523 = .ok (.ireturn, 1) := by decide +kernel
theorem dL_law_1524 : decode cL_law 1524 = .ok (.goto 274, 3) := by decide +kernel
theorem dL_law_1527 : decode cL_law 1527 = .ok (.aload_n 1, 1) := by decide +kernel
theorem dL_law_1528 : decode cL_law 1528 = .ok (.aload_n 0, 1) := by decide +kernel
theorem dL_law_1529 : decode cL_law 1529 = .ok (.iload 4, 2) := by decide +kernel
theorem dL_law_1531 : decode cL_law 1531 = .ok (.iconst 1, 1) := by decide +kernel
theorem dL_law_1532 : decode cL_law 1532 = .ok (.iadd, 1) := by decide +kernel
theorem dL_law_1533 : decode cL_law 1533 = .ok (.iaload, 1) := by decide +kernel
theorem dL_law_1534 : decode cL_law 1534 = .ok (.aload_n 0, 1) := by decide +kernel
theorem dL_law_1535 : decode cL_law 1535 = .ok (.iload 4, 2) := by decide +kernel
theorem dL_law_1537 : decode cL_law 1537 = .ok (.iconst 2, 1) := by decide +kernel
theorem dL_law_1538 : decode cL_law 1538 = .ok (.iadd, 1) := by decide +kernel
theorem dL_law_1539 : decode cL_law 1539 = .ok (.iaload, 1) := by decide +kernel
theorem dL_law_1540 : decode cL_law 1540 = .ok (.aload_n 0, 1) := by decide +kernel
theorem dL_law_1541 : decode cL_law 1541 = .ok (.iload 4, 2) := by decide +kernel
theorem dL_law_1543 : decode cL_law 1543 = .ok (.iconst 3, 1) := by decide +kernel
theorem dL_law_1544 : decode cL_law 1544 = .ok (.iadd, 1) := by decide +kernel
theorem dL_law_1545 : decode cL_law 1545 = .ok (.iaload, 1) := by decide +kernel
theorem dL_law_1546 : decode cL_law 1546 = .ok (.aload_n 3, 1) := by decide +kernel
theorem dL_law_1547 : decode cL_law 1547 = .ok (.invokestatic 179, 3) := by decide +kernel
theorem dL_law_1550 : decode cL_law 1550 = .ok (.istore 5, 2) := by decide +kernel
theorem dL_law_1552 : decode cL_law 1552 = .ok (.aload_n 2, 1) := by decide +kernel
theorem dL_law_1553 : decode cL_law 1553 = .ok (.aload_n 0, 1) := by decide +kernel
theorem dL_law_1554 : decode cL_law 1554 = .ok (.iload 4, 2) := by decide +kernel
theorem dL_law_1556 : decode cL_law 1556 = .ok (.iconst 1, 1) := by decide +kernel
theorem dL_law_1557 : decode cL_law 1557 = .ok (.iadd, 1) := by decide +kernel
theorem dL_law_1558 : decode cL_law 1558 = .ok (.iaload, 1) := by decide +kernel
theorem dL_law_1559 : decode cL_law 1559 = .ok (.aload_n 0, 1) := by decide +kernel
theorem dL_law_1560 : decode cL_law 1560 = .ok (.iload 4, 2) := by decide +kernel
theorem dL_law_1562 : decode cL_law 1562 = .ok (.iconst 2, 1) := by decide +kernel
theorem dL_law_1563 : decode cL_law 1563 = .ok (.iadd, 1) := by decide +kernel
theorem dL_law_1564 : decode cL_law 1564 = .ok (.iaload, 1) := by decide +kernel
theorem dL_law_1565 : decode cL_law 1565 = .ok (.aload_n 0, 1) := by decide +kernel
theorem dL_law_1566 : decode cL_law 1566 = .ok (.iload 4, 2) := by decide +kernel
theorem dL_law_1568 : decode cL_law 1568 = .ok (.iconst 3, 1) := by decide +kernel
theorem dL_law_1569 : decode cL_law 1569 = .ok (.iadd, 1) := by decide +kernel
theorem dL_law_1570 : decode cL_law 1570 = .ok (.iaload, 1) := by decide +kernel
theorem dL_law_1571 : decode cL_law 1571 = .ok (.invokevirtual 181, 3) := by decide +kernel
theorem dL_law_1574 : decode cL_law 1574 = .ok (.istore 6, 2) := by decide +kernel
theorem dL_law_1576 : decode cL_law 1576 = .ok (.aload_n 2, 1) := by decide +kernel
theorem dL_law_1577 : decode cL_law 1577 = .ok (.invokevirtual 101, 3) := by decide +kernel
theorem dL_law_1580 : decode cL_law 1580 = .ok (.iload 5, 2) := by decide +kernel
theorem dL_law_1582 : decode cL_law 1582 = .ok (.if_icmp .eq 5, 3) := by decide +kernel
theorem dL_law_1585 : decode cL_law 1585 = .ok (.iconst 0, 1) := by decide +kernel
theorem dL_law_1586 : decode cL_law 1586 = .ok (.ireturn, 1) := by decide +kernel
theorem dL_law_1587 : decode cL_law 1587 = .ok (.iload 5, 2) := by decide +kernel
theorem dL_law_1589 : decode cL_law 1589 = .ok (.ifCond .ne 15, 3) := by decide +kernel
theorem dL_law_1592 : decode cL_law 1592 = .ok (.aload_n 3, 1) := by decide +kernel
theorem dL_law_1593 : decode cL_law 1593 = .ok (.iconst 0, 1) := by decide +kernel
theorem dL_law_1594 : decode cL_law 1594 = .ok (.laload, 1) := by decide +kernel
theorem dL_law_1595 : decode cL_law 1595 = .ok (.iload 6, 2) := by decide +kernel
theorem dL_law_1597 : decode cL_law 1597 = .ok (.i2l, 1) := by decide +kernel
theorem dL_law_1598 : decode cL_law 1598 = .ok (.lcmp, 1) := by decide +kernel
theorem dL_law_1599 : decode cL_law 1599 = .ok (.ifCond .eq 5, 3) := by decide +kernel
theorem dL_law_1602 : decode cL_law 1602 = .ok (.iconst 0, 1) := by decide +kernel
theorem dL_law_1603 : decode cL_law 1603 = .ok (.ireturn, 1) := by decide +kernel
theorem dL_law_1604 : decode cL_law 1604 = .ok (.goto 194, 3) := by decide +kernel
theorem dL_law_1607 : decode cL_law 1607 = .ok (.aload_n 1, 1) := by decide +kernel
theorem dL_law_1608 : decode cL_law 1608 = .ok (.aload_n 0, 1) := by decide +kernel
theorem dL_law_1609 : decode cL_law 1609 = .ok (.iload 4, 2) := by decide +kernel
theorem dL_law_1611 : decode cL_law 1611 = .ok (.iconst 1, 1) := by decide +kernel
theorem dL_law_1612 : decode cL_law 1612 = .ok (.iadd, 1) := by decide +kernel
theorem dL_law_1613 : decode cL_law 1613 = .ok (.iaload, 1) := by decide +kernel
theorem dL_law_1614 : decode cL_law 1614 = .ok (.aload_n 0, 1) := by decide +kernel
theorem dL_law_1615 : decode cL_law 1615 = .ok (.iload 4, 2) := by decide +kernel
theorem dL_law_1617 : decode cL_law 1617 = .ok (.iconst 2, 1) := by decide +kernel
theorem dL_law_1618 : decode cL_law 1618 = .ok (.iadd, 1) := by decide +kernel
theorem dL_law_1619 : decode cL_law 1619 = .ok (.iaload, 1) := by decide +kernel
theorem dL_law_1620 : decode cL_law 1620 = .ok (.aload_n 3, 1) := by decide +kernel
theorem dL_law_1621 : decode cL_law 1621 = .ok (.invokestatic 182, 3) := by decide +kernel
theorem dL_law_1624 : decode cL_law 1624 = .ok (.istore 5, 2) := by decide +kernel
theorem dL_law_1626 : decode cL_law 1626 = .ok (.aload_n 2, 1) := by decide +kernel
theorem dL_law_1627 : decode cL_law 1627 = .ok (.aload_n 0, 1) := by decide +kernel
theorem dL_law_1628 : decode cL_law 1628 = .ok (.iload 4, 2) := by decide +kernel
theorem dL_law_1630 : decode cL_law 1630 = .ok (.iconst 1, 1) := by decide +kernel
theorem dL_law_1631 : decode cL_law 1631 = .ok (.iadd, 1) := by decide +kernel
theorem dL_law_1632 : decode cL_law 1632 = .ok (.iaload, 1) := by decide +kernel
theorem dL_law_1633 : decode cL_law 1633 = .ok (.aload_n 0, 1) := by decide +kernel
theorem dL_law_1634 : decode cL_law 1634 = .ok (.iload 4, 2) := by decide +kernel
theorem dL_law_1636 : decode cL_law 1636 = .ok (.iconst 2, 1) := by decide +kernel
theorem dL_law_1637 : decode cL_law 1637 = .ok (.iadd, 1) := by decide +kernel
theorem dL_law_1638 : decode cL_law 1638 = .ok (.iaload, 1) := by decide +kernel
theorem dL_law_1639 : decode cL_law 1639 = .ok (.invokevirtual 184, 3) := by decide +kernel
theorem dL_law_1642 : decode cL_law 1642 = .ok (.istore 6, 2) := by decide +kernel
theorem dL_law_1644 : decode cL_law 1644 = .ok (.aload_n 2, 1) := by decide +kernel
theorem dL_law_1645 : decode cL_law 1645 = .ok (.invokevirtual 101, 3) := by decide +kernel
theorem dL_law_1648 : decode cL_law 1648 = .ok (.iload 5, 2) := by decide +kernel
theorem dL_law_1650 : decode cL_law 1650 = .ok (.if_icmp .eq 5, 3) := by decide +kernel
theorem dL_law_1653 : decode cL_law 1653 = .ok (.iconst 0, 1) := by decide +kernel
theorem dL_law_1654 : decode cL_law 1654 = .ok (.ireturn, 1) := by decide +kernel
theorem dL_law_1655 : decode cL_law 1655 = .ok (.iload 5, 2) := by decide +kernel
theorem dL_law_1657 : decode cL_law 1657 = .ok (.ifCond .ne 15, 3) := by decide +kernel
theorem dL_law_1660 : decode cL_law 1660 = .ok (.aload_n 3, 1) := by decide +kernel
theorem dL_law_1661 : decode cL_law 1661 = .ok (.iconst 0, 1) := by decide +kernel
theorem dL_law_1662 : decode cL_law 1662 = .ok (.laload, 1) := by decide +kernel
theorem dL_law_1663 : decode cL_law 1663 = .ok (.iload 6, 2) := by decide +kernel
theorem dL_law_1665 : decode cL_law 1665 = .ok (.i2l, 1) := by decide +kernel
theorem dL_law_1666 : decode cL_law 1666 = .ok (.lcmp, 1) := by decide +kernel
theorem dL_law_1667 : decode cL_law 1667 = .ok (.ifCond .eq 5, 3) := by decide +kernel
theorem dL_law_1670 : decode cL_law 1670 = .ok (.iconst 0, 1) := by decide +kernel
theorem dL_law_1671 : decode cL_law 1671 = .ok (.ireturn, 1) := by decide +kernel
theorem dL_law_1672 : decode cL_law 1672 = .ok (.goto 126, 3) := by decide +kernel
theorem dL_law_1675 : decode cL_law 1675 = .ok (.aload_n 1, 1) := by decide +kernel
theorem dL_law_1676 : decode cL_law 1676 = .ok (.aload_n 0, 1) := by decide +kernel
theorem dL_law_1677 : decode cL_law 1677 = .ok (.iload 4, 2) := by decide +kernel
theorem dL_law_1679 : decode cL_law 1679 = .ok (.iconst 1, 1) := by decide +kernel
theorem dL_law_1680 : decode cL_law 1680 = .ok (.iadd, 1) := by decide +kernel
theorem dL_law_1681 : decode cL_law 1681 = .ok (.iaload, 1) := by decide +kernel
theorem dL_law_1682 : decode cL_law 1682 = .ok (.aload_n 0, 1) := by decide +kernel
theorem dL_law_1683 : decode cL_law 1683 = .ok (.iload 4, 2) := by decide +kernel
theorem dL_law_1685 : decode cL_law 1685 = .ok (.iconst 2, 1) := by decide +kernel
theorem dL_law_1686 : decode cL_law 1686 = .ok (.iadd, 1) := by decide +kernel
theorem dL_law_1687 : decode cL_law 1687 = .ok (.iaload, 1) := by decide +kernel
theorem dL_law_1688 : decode cL_law 1688 = .ok (.aload_n 3, 1) := by decide +kernel
theorem dL_law_1689 : decode cL_law 1689 = .ok (.invokestatic 185, 3) := by decide +kernel
theorem dL_law_1692 : decode cL_law 1692 = .ok (.istore 5, 2) := by decide +kernel
theorem dL_law_1694 : decode cL_law 1694 = .ok (.aload_n 2, 1) := by decide +kernel
theorem dL_law_1695 : decode cL_law 1695 = .ok (.aload_n 0, 1) := by decide +kernel
theorem dL_law_1696 : decode cL_law 1696 = .ok (.iload 4, 2) := by decide +kernel
theorem dL_law_1698 : decode cL_law 1698 = .ok (.iconst 1, 1) := by decide +kernel
theorem dL_law_1699 : decode cL_law 1699 = .ok (.iadd, 1) := by decide +kernel
theorem dL_law_1700 : decode cL_law 1700 = .ok (.iaload, 1) := by decide +kernel
theorem dL_law_1701 : decode cL_law 1701 = .ok (.aload_n 0, 1) := by decide +kernel
theorem dL_law_1702 : decode cL_law 1702 = .ok (.iload 4, 2) := by decide +kernel
theorem dL_law_1704 : decode cL_law 1704 = .ok (.iconst 2, 1) := by decide +kernel
theorem dL_law_1705 : decode cL_law 1705 = .ok (.iadd, 1) := by decide +kernel
theorem dL_law_1706 : decode cL_law 1706 = .ok (.iaload, 1) := by decide +kernel
theorem dL_law_1707 : decode cL_law 1707 = .ok (.invokevirtual 187, 3) := by decide +kernel
theorem dL_law_1710 : decode cL_law 1710 = .ok (.istore 6, 2) := by decide +kernel
theorem dL_law_1712 : decode cL_law 1712 = .ok (.aload_n 2, 1) := by decide +kernel
theorem dL_law_1713 : decode cL_law 1713 = .ok (.invokevirtual 101, 3) := by decide +kernel
theorem dL_law_1716 : decode cL_law 1716 = .ok (.iload 5, 2) := by decide +kernel
theorem dL_law_1718 : decode cL_law 1718 = .ok (.if_icmp .eq 5, 3) := by decide +kernel
theorem dL_law_1721 : decode cL_law 1721 = .ok (.iconst 0, 1) := by decide +kernel
theorem dL_law_1722 : decode cL_law 1722 = .ok (.ireturn, 1) := by decide +kernel
theorem dL_law_1723 : decode cL_law 1723 = .ok (.iload 5, 2) := by decide +kernel
theorem dL_law_1725 : decode cL_law 1725 = .ok (.ifCond .ne 15, 3) := by decide +kernel
theorem dL_law_1728 : decode cL_law 1728 = .ok (.aload_n 3, 1) := by decide +kernel
theorem dL_law_1729 : decode cL_law 1729 = .ok (.iconst 0, 1) := by decide +kernel
theorem dL_law_1730 : decode cL_law 1730 = .ok (.laload, 1) := by decide +kernel
theorem dL_law_1731 : decode cL_law 1731 = .ok (.iload 6, 2) := by decide +kernel
theorem dL_law_1733 : decode cL_law 1733 = .ok (.i2l, 1) := by decide +kernel
theorem dL_law_1734 : decode cL_law 1734 = .ok (.lcmp, 1) := by decide +kernel
theorem dL_law_1735 : decode cL_law 1735 = .ok (.ifCond .eq 5, 3) := by decide +kernel
theorem dL_law_1738 : decode cL_law 1738 = .ok (.iconst 0, 1) := by decide +kernel
theorem dL_law_1739 : decode cL_law 1739 = .ok (.ireturn, 1) := by decide +kernel
theorem dL_law_1740 : decode cL_law 1740 = .ok (.goto 58, 3) := by decide +kernel
theorem dL_law_1743 : decode cL_law 1743 = .ok (.aload_n 1, 1) := by decide +kernel
theorem dL_law_1744 : decode cL_law 1744 = .ok (.invokevirtual 188, 3) := by decide +kernel
theorem dL_law_1747 : decode cL_law 1747 = .ok (.dstore 5, 2) := by decide +kernel
theorem dL_law_1749 : decode cL_law 1749 = .ok (.aload_n 2, 1) := by decide +kernel
theorem dL_law_1750 : decode cL_law 1750 = .ok (.invokevirtual 192, 3) := by decide +kernel
theorem dL_law_1753 : decode cL_law 1753 = .ok (.dstore 7, 2) := by decide +kernel
theorem dL_law_1755 : decode cL_law 1755 = .ok (.dload 5, 2) := by decide +kernel
theorem dL_law_1757 : decode cL_law 1757 = .ok (.dload 7, 2) := by decide +kernel
theorem dL_law_1759 : decode cL_law 1759 = .ok (.dcmp .l, 1) := by decide +kernel
theorem dL_law_1760 : decode cL_law 1760 = .ok (.ifCond .eq 21, 3) := by decide +kernel
theorem dL_law_1763 : decode cL_law 1763 = .ok (.dload 5, 2) := by decide +kernel
theorem dL_law_1765 : decode cL_law 1765 = .ok (.dload 5, 2) := by decide +kernel
theorem dL_law_1767 : decode cL_law 1767 = .ok (.dcmp .l, 1) := by decide +kernel
theorem dL_law_1768 : decode cL_law 1768 = .ok (.ifCond .eq 11, 3) := by decide +kernel
theorem dL_law_1771 : decode cL_law 1771 = .ok (.dload 7, 2) := by decide +kernel
theorem dL_law_1773 : decode cL_law 1773 = .ok (.dload 7, 2) := by decide +kernel
theorem dL_law_1775 : decode cL_law 1775 = .ok (.dcmp .l, 1) := by decide +kernel
theorem dL_law_1776 : decode cL_law 1776 = .ok (.ifCond .ne 5, 3) := by decide +kernel
theorem dL_law_1779 : decode cL_law 1779 = .ok (.iconst 0, 1) := by decide +kernel
theorem dL_law_1780 : decode cL_law 1780 = .ok (.ireturn, 1) := by decide +kernel
theorem dL_law_1781 : decode cL_law 1781 = .ok (.goto 17, 3) := by decide +kernel
theorem dL_law_1784 : decode cL_law 1784 = .ok (.aload_n 1, 1) := by decide +kernel
theorem dL_law_1785 : decode cL_law 1785 = .ok (.invokevirtual 193, 3) := by decide +kernel
theorem dL_law_1788 : decode cL_law 1788 = .ok (.aload_n 2, 1) := by decide +kernel
theorem dL_law_1789 : decode cL_law 1789 = .ok (.invokevirtual 197, 3) := by decide +kernel
theorem dL_law_1792 : decode cL_law 1792 = .ok (.lcmp, 1) := by decide +kernel
theorem dL_law_1793 : decode cL_law 1793 = .ok (.ifCond .eq 5, 3) := by decide +kernel
theorem dL_law_1796 : decode cL_law 1796 = .ok (.iconst 0, 1) := by decide +kernel
theorem dL_law_1797 : decode cL_law 1797 = .ok (.ireturn, 1) := by decide +kernel
theorem dL_law_1798 : decode cL_law 1798 = .ok (.iinc 4 4, 3) := by decide +kernel
theorem dL_law_1801 : decode cL_law 1801 = .ok (.goto (-1778), 3) := by decide +kernel
theorem dL_law_1804 : decode cL_law 1804 = .ok (.iconst 1, 1) := by decide +kernel
theorem dL_law_1805 : decode cL_law 1805 = .ok (.ireturn, 1) := by decide +kernel
end
section
theorem dX0_init_0 : decode cX0_init 0 = .ok (.aload_n 0, 1) := by decide +kernel
theorem dX0_init_1 : decode cX0_init 1 = .ok (.invokespecial 3, 3) := by decide +kernel
theorem dX0_init_4 : decode cX0_init 4 = .ok (.aload_n 0, 1) := by decide +kernel
theorem dX0_init_5 : decode cX0_init 5 = .ok (.bipush 12, 2) := by decide +kernel
theorem dX0_init_7 : decode cX0_init 7 = .ok (.newarray .int, 2) := by decide +kernel
theorem dX0_init_9 : decode cX0_init 9 = .ok (.putfield 9, 3) := by decide +kernel
theorem dX0_init_12 : decode cX0_init 12 = .ok (.aload_n 0, 1) := by decide +kernel
theorem dX0_init_13 : decode cX0_init 13 = .ok (.bipush 12, 2) := by decide +kernel
theorem dX0_init_15 : decode cX0_init 15 = .ok (.newarray .int, 2) := by decide +kernel
theorem dX0_init_17 : decode cX0_init 17 = .ok (.putfield 15, 3) := by decide +kernel
theorem dX0_init_20 : decode cX0_init 20 = .ok (.return_, 1) := by decide +kernel
theorem dX0_divideFee_0 : decode cX0_divideFee 0 = .ok (.aload_n 0, 1) := by decide +kernel
theorem dX0_divideFee_1 : decode cX0_divideFee 1 = .ok (.aload_n 1, 1) := by decide +kernel
theorem dX0_divideFee_2 : decode cX0_divideFee 2 = .ok (.iload_n 2, 1) := by decide +kernel
theorem dX0_divideFee_3 : decode cX0_divideFee 3 = .ok (.iload_n 3, 1) := by decide +kernel
theorem dX0_divideFee_4 : decode cX0_divideFee 4 = .ok (.invokevirtual 18, 3) := by decide +kernel
theorem dX0_divideFee_7 : decode cX0_divideFee 7 = .ok (.aload_n 0, 1) := by decide +kernel
theorem dX0_divideFee_8 : decode cX0_divideFee 8 = .ok (.aload_n 1, 1) := by decide +kernel
theorem dX0_divideFee_9 : decode cX0_divideFee 9 = .ok (.getfield 22, 3) := by decide +kernel
theorem dX0_divideFee_12 : decode cX0_divideFee 12 = .ok (.iload_n 2, 1) := by decide +kernel
theorem dX0_divideFee_13 : decode cX0_divideFee 13 = .ok (.iload_n 3, 1) := by decide +kernel
theorem dX0_divideFee_14 : decode cX0_divideFee 14 = .ok (.aload_n 0, 1) := by decide +kernel
theorem dX0_divideFee_15 : decode cX0_divideFee 15 = .ok (.getfield 28, 3) := by decide +kernel
theorem dX0_divideFee_18 : decode cX0_divideFee 18 = .ok (.isub, 1) := by decide +kernel
theorem dX0_divideFee_19 : decode cX0_divideFee 19 = .ok (.invokevirtual 32, 3) := by decide +kernel
theorem dX0_divideFee_22 : decode cX0_divideFee 22 = .ok (.return_, 1) := by decide +kernel
theorem dX0_divideRoyalty_0 : decode cX0_divideRoyalty 0 = .ok (.aload_n 0, 1) := by decide +kernel
theorem dX0_divideRoyalty_1 : decode cX0_divideRoyalty 1 = .ok (.aload_n 1, 1) := by decide +kernel
theorem dX0_divideRoyalty_2 : decode cX0_divideRoyalty 2 = .ok (.iload_n 2, 1) := by decide +kernel
theorem dX0_divideRoyalty_3 : decode cX0_divideRoyalty 3 = .ok (.iload_n 3, 1) := by decide +kernel
theorem dX0_divideRoyalty_4 : decode cX0_divideRoyalty 4 = .ok (.invokevirtual 18, 3) := by decide +kernel
theorem dX0_divideRoyalty_7 : decode cX0_divideRoyalty 7 = .ok (.aload_n 0, 1) := by decide +kernel
theorem dX0_divideRoyalty_8 : decode cX0_divideRoyalty 8 = .ok (.iload_n 3, 1) := by decide +kernel
theorem dX0_divideRoyalty_9 : decode cX0_divideRoyalty 9 = .ok (.aload_n 1, 1) := by decide +kernel
theorem dX0_divideRoyalty_10 : decode cX0_divideRoyalty 10 = .ok (.getfield 36, 3) := by decide +kernel
theorem dX0_divideRoyalty_13 : decode cX0_divideRoyalty 13 = .ok (.iconst 1, 1) := by decide +kernel
theorem dX0_divideRoyalty_14 : decode cX0_divideRoyalty 14 = .ok (.iaload, 1) := by decide +kernel
theorem dX0_divideRoyalty_15 : decode cX0_divideRoyalty 15 = .ok (.imul, 1) := by decide +kernel
theorem dX0_divideRoyalty_16 : decode cX0_divideRoyalty 16 = .ok (.bipush 100, 2) := by decide +kernel
theorem dX0_divideRoyalty_18 : decode cX0_divideRoyalty 18 = .ok (.idiv, 1) := by decide +kernel
theorem dX0_divideRoyalty_19 : decode cX0_divideRoyalty 19 = .ok (.putfield 39, 3) := by decide +kernel
theorem dX0_divideRoyalty_22 : decode cX0_divideRoyalty 22 = .ok (.aload_n 0, 1) := by decide +kernel
theorem dX0_divideRoyalty_23 : decode cX0_divideRoyalty 23 = .ok (.aload_n 1, 1) := by decide +kernel
theorem dX0_divideRoyalty_24 : decode cX0_divideRoyalty 24 = .ok (.getfield 22, 3) := by decide +kernel
theorem dX0_divideRoyalty_27 : decode cX0_divideRoyalty 27 = .ok (.iload_n 2, 1) := by decide +kernel
theorem dX0_divideRoyalty_28 : decode cX0_divideRoyalty 28 = .ok (.iload_n 3, 1) := by decide +kernel
theorem dX0_divideRoyalty_29 : decode cX0_divideRoyalty 29 = .ok (.aload_n 0, 1) := by decide +kernel
theorem dX0_divideRoyalty_30 : decode cX0_divideRoyalty 30 = .ok (.getfield 28, 3) := by decide +kernel
theorem dX0_divideRoyalty_33 : decode cX0_divideRoyalty 33 = .ok (.isub, 1) := by decide +kernel
theorem dX0_divideRoyalty_34 : decode cX0_divideRoyalty 34 = .ok (.aload_n 0, 1) := by decide +kernel
theorem dX0_divideRoyalty_35 : decode cX0_divideRoyalty 35 = .ok (.getfield 39, 3) := by decide +kernel
theorem dX0_divideRoyalty_38 : decode cX0_divideRoyalty 38 = .ok (.isub, 1) := by decide +kernel
theorem dX0_divideRoyalty_39 : decode cX0_divideRoyalty 39 = .ok (.invokevirtual 32, 3) := by decide +kernel
theorem dX0_divideRoyalty_42 : decode cX0_divideRoyalty 42 = .ok (.aload_n 1, 1) := by decide +kernel
theorem dX0_divideRoyalty_43 : decode cX0_divideRoyalty 43 = .ok (.getfield 36, 3) := by decide +kernel
theorem dX0_divideRoyalty_46 : decode cX0_divideRoyalty 46 = .ok (.iconst 2, 1) := by decide +kernel
theorem dX0_divideRoyalty_47 : decode cX0_divideRoyalty 47 = .ok (.iaload, 1) := by decide +kernel
theorem dX0_divideRoyalty_48 : decode cX0_divideRoyalty 48 = .ok (.ifCond .le 18, 3) := by decide +kernel
theorem dX0_divideRoyalty_51 : decode cX0_divideRoyalty 51 = .ok (.aload_n 0, 1) := by decide +kernel
theorem dX0_divideRoyalty_52 : decode cX0_divideRoyalty 52 = .ok (.aload_n 1, 1) := by decide +kernel
theorem dX0_divideRoyalty_53 : decode cX0_divideRoyalty 53 = .ok (.getfield 22, 3) := by decide +kernel
theorem dX0_divideRoyalty_56 : decode cX0_divideRoyalty 56 = .ok (.iload_n 2, 1) := by decide +kernel
theorem dX0_divideRoyalty_57 : decode cX0_divideRoyalty 57 = .ok (.aload_n 1, 1) := by decide +kernel
theorem dX0_divideRoyalty_58 : decode cX0_divideRoyalty 58 = .ok (.getfield 36, 3) := by decide +kernel
theorem dX0_divideRoyalty_61 : decode cX0_divideRoyalty 61 = .ok (.iconst 2, 1) := by decide +kernel
theorem dX0_divideRoyalty_62 : decode cX0_divideRoyalty 62 = .ok (.iaload, 1) := by decide +kernel
theorem dX0_divideRoyalty_63 : decode cX0_divideRoyalty 63 = .ok (.invokevirtual 42, 3) := by decide +kernel
theorem dX0_divideRoyalty_66 : decode cX0_divideRoyalty 66 = .ok (.return_, 1) := by decide +kernel
theorem dX0_begin_0 : decode cX0_begin 0 = .ok (.aload_n 0, 1) := by decide +kernel
theorem dX0_begin_1 : decode cX0_begin 1 = .ok (.iload_n 3, 1) := by decide +kernel
theorem dX0_begin_2 : decode cX0_begin 2 = .ok (.aload_n 1, 1) := by decide +kernel
theorem dX0_begin_3 : decode cX0_begin 3 = .ok (.getfield 36, 3) := by decide +kernel
theorem dX0_begin_6 : decode cX0_begin 6 = .ok (.iconst 0, 1) := by decide +kernel
theorem dX0_begin_7 : decode cX0_begin 7 = .ok (.iaload, 1) := by decide +kernel
theorem dX0_begin_8 : decode cX0_begin 8 = .ok (.imul, 1) := by decide +kernel
theorem dX0_begin_9 : decode cX0_begin 9 = .ok (.bipush 100, 2) := by decide +kernel
theorem dX0_begin_11 : decode cX0_begin 11 = .ok (.idiv, 1) := by decide +kernel
theorem dX0_begin_12 : decode cX0_begin 12 = .ok (.putfield 28, 3) := by decide +kernel
theorem dX0_begin_15 : decode cX0_begin 15 = .ok (.aload_n 0, 1) := by decide +kernel
theorem dX0_begin_16 : decode cX0_begin 16 = .ok (.iconst 0, 1) := by decide +kernel
theorem dX0_begin_17 : decode cX0_begin 17 = .ok (.putfield 45, 3) := by decide +kernel
theorem dX0_begin_20 : decode cX0_begin 20 = .ok (.aload_n 0, 1) := by decide +kernel
theorem dX0_begin_21 : decode cX0_begin 21 = .ok (.aload_n 1, 1) := by decide +kernel
theorem dX0_begin_22 : decode cX0_begin 22 = .ok (.getfield 48, 3) := by decide +kernel
theorem dX0_begin_25 : decode cX0_begin 25 = .ok (.getfield 52, 3) := by decide +kernel
theorem dX0_begin_28 : decode cX0_begin 28 = .ok (.aload_n 1, 1) := by decide +kernel
theorem dX0_begin_29 : decode cX0_begin 29 = .ok (.getfield 22, 3) := by decide +kernel
theorem dX0_begin_32 : decode cX0_begin 32 = .ok (.getfield 57, 3) := by decide +kernel
theorem dX0_begin_35 : decode cX0_begin 35 = .ok (.iload_n 2, 1) := by decide +kernel
theorem dX0_begin_36 : decode cX0_begin 36 = .ok (.iaload, 1) := by decide +kernel
theorem dX0_begin_37 : decode cX0_begin 37 = .ok (.iaload, 1) := by decide +kernel
theorem dX0_begin_38 : decode cX0_begin 38 = .ok (.putfield 62, 3) := by decide +kernel
theorem dX0_begin_41 : decode cX0_begin 41 = .ok (.aload_n 0, 1) := by decide +kernel
theorem dX0_begin_42 : decode cX0_begin 42 = .ok (.iconst 0, 1) := by decide +kernel
theorem dX0_begin_43 : decode cX0_begin 43 = .ok (.putfield 39, 3) := by decide +kernel
theorem dX0_begin_46 : decode cX0_begin 46 = .ok (.return_, 1) := by decide +kernel
theorem dX0_split_0 : decode cX0_split 0 = .ok (.iconst 1, 1) := by decide +kernel
theorem dX0_split_1 : decode cX0_split 1 = .ok (.aload_n 1, 1) := by decide +kernel
theorem dX0_split_2 : decode cX0_split 2 = .ok (.iload_n 2, 1) := by decide +kernel
theorem dX0_split_3 : decode cX0_split 3 = .ok (.invokevirtual 65, 3) := by decide +kernel
theorem dX0_split_6 : decode cX0_split 6 = .ok (.invokestatic 69, 3) := by decide +kernel
theorem dX0_split_9 : decode cX0_split 9 = .ok (.istore 4, 2) := by decide +kernel
theorem dX0_split_11 : decode cX0_split 11 = .ok (.iload_n 3, 1) := by decide +kernel
theorem dX0_split_12 : decode cX0_split 12 = .ok (.istore 5, 2) := by decide +kernel
theorem dX0_split_14 : decode cX0_split 14 = .ok (.iconst 0, 1) := by decide +kernel
theorem dX0_split_15 : decode cX0_split 15 = .ok (.istore 6, 2) := by decide +kernel
theorem dX0_split_17 : decode cX0_split 17 = .ok (.iload 6, 2) := by decide +kernel
theorem dX0_split_19 : decode cX0_split 19 = .ok (.bipush 12, 2) := by decide +kernel
theorem dX0_split_21 : decode cX0_split 21 = .ok (.if_icmp .ge 60, 3) := by decide +kernel
theorem dX0_split_24 : decode cX0_split 24 = .ok (.iload_n 3, 1) := by decide +kernel
theorem dX0_split_25 : decode cX0_split 25 = .ok (.aload_n 1, 1) := by decide +kernel
theorem dX0_split_26 : decode cX0_split 26 = .ok (.getfield 75, 3) := by decide +kernel
theorem dX0_split_29 : decode cX0_split 29 = .ok (.iload_n 2, 1) := by decide +kernel
theorem dX0_split_30 : decode cX0_split 30 = .ok (.iload 6, 2) := by decide +kernel
theorem dX0_split_32 : decode cX0_split 32 = .ok (.invokestatic 78, 3) := by decide +kernel
theorem dX0_split_35 : decode cX0_split 35 = .ok (.iaload, 1) := by decide +kernel
theorem dX0_split_36 : decode cX0_split 36 = .ok (.imul, 1) := by decide +kernel
theorem dX0_split_37 : decode cX0_split 37 = .ok (.istore 7, 2) := by decide +kernel
theorem dX0_split_39 : decode cX0_split 39 = .ok (.aload_n 0, 1) := by decide +kernel
theorem dX0_split_40 : decode cX0_split 40 = .ok (.getfield 9, 3) := by decide +kernel
theorem dX0_split_43 : decode cX0_split 43 = .ok (.iload 6, 2) := by decide +kernel
theorem dX0_split_45 : decode cX0_split 45 = .ok (.iload 7, 2) := by decide +kernel
theorem dX0_split_47 : decode cX0_split 47 = .ok (.iload 4, 2) := by decide +kernel
theorem dX0_split_49 : decode cX0_split 49 = .ok (.idiv, 1) := by decide +kernel
theorem dX0_split_50 : decode cX0_split 50 = .ok (.iastore, 1) := by decide +kernel
theorem dX0_split_51 : decode cX0_split 51 = .ok (.aload_n 0, 1) := by decide +kernel
theorem dX0_split_52 : decode cX0_split 52 = .ok (.getfield 15, 3) := by decide +kernel
theorem dX0_split_55 : decode cX0_split 55 = .ok (.iload 6, 2) := by decide +kernel
theorem dX0_split_57 : decode cX0_split 57 = .ok (.iload 7, 2) := by decide +kernel
theorem dX0_split_59 : decode cX0_split 59 = .ok (.iload 4, 2) := by decide +kernel
theorem dX0_split_61 : decode cX0_split 61 = .ok (.irem, 1) := by decide +kernel
theorem dX0_split_62 : decode cX0_split 62 = .ok (.iastore, 1) := by decide +kernel
theorem dX0_split_63 : decode cX0_split 63 = .ok (.iload 5, 2) := by decide +kernel
theorem dX0_split_65 : decode cX0_split 65 = .ok (.aload_n 0, 1) := by decide +kernel
theorem dX0_split_66 : decode cX0_split 66 = .ok (.getfield 9, 3) := by decide +kernel
theorem dX0_split_69 : decode cX0_split 69 = .ok (.iload 6, 2) := by decide +kernel
theorem dX0_split_71 : decode cX0_split 71 = .ok (.iaload, 1) := by decide +kernel
theorem dX0_split_72 : decode cX0_split 72 = .ok (.isub, 1) := by decide +kernel
theorem dX0_split_73 : decode cX0_split 73 = .ok (.istore 5, 2) := by decide +kernel
theorem dX0_split_75 : decode cX0_split 75 = .ok (.iinc 6 1, 3) := by decide +kernel
theorem dX0_split_78 : decode cX0_split 78 = .ok (.goto (-61), 3) := by decide +kernel
theorem dX0_split_81 : decode cX0_split 81 = .ok (.iconst 0, 1) := by decide +kernel
theorem dX0_split_82 : decode cX0_split 82 = .ok (.istore 6, 2) := by decide +kernel
theorem dX0_split_84 : decode cX0_split 84 = .ok (.iload 6, 2) := by decide +kernel
theorem dX0_split_86 : decode cX0_split 86 = .ok (.iload 5, 2) := by decide +kernel
theorem dX0_split_88 : decode cX0_split 88 = .ok (.if_icmp .ge 19, 3) := by decide +kernel
theorem dX0_split_91 : decode cX0_split 91 = .ok (.iload 6, 2) := by decide +kernel
theorem dX0_split_93 : decode cX0_split 93 = .ok (.iconst 4, 1) := by decide +kernel
theorem dX0_split_94 : decode cX0_split 94 = .ok (.if_icmp .ge 13, 3) := by decide +kernel
theorem dX0_split_97 : decode cX0_split 97 = .ok (.aload_n 0, 1) := by decide +kernel
theorem dX0_split_98 : decode cX0_split 98 = .ok (.invokevirtual 81, 3) := by decide +kernel
theorem dX0_split_101 : decode cX0_split 101 = .ok (.iinc 6 1, 3) := by decide +kernel
theorem dX0_split_104 : decode cX0_split 104 = .ok (.goto (-20), 3) := by decide +kernel
theorem dX0_split_107 : decode cX0_split 107 = .ok (.return_, 1) := by decide +kernel
theorem dX0_giveUnit_0 : decode cX0_giveUnit 0 = .ok (.iconst 0, 1) := by decide +kernel
theorem dX0_giveUnit_1 : decode cX0_giveUnit 1 = .ok (.istore_n 1, 1) := by decide +kernel
theorem dX0_giveUnit_2 : decode cX0_giveUnit 2 = .ok (.iconst 1, 1) := by decide +kernel
theorem dX0_giveUnit_3 : decode cX0_giveUnit 3 = .ok (.istore_n 2, 1) := by decide +kernel
theorem dX0_giveUnit_4 : decode cX0_giveUnit 4 = .ok (.iload_n 2, 1) := by decide +kernel
theorem dX0_giveUnit_5 : decode cX0_giveUnit 5 = .ok (.bipush 12, 2) := by decide +kernel
theorem dX0_giveUnit_7 : decode cX0_giveUnit 7 = .ok (.if_icmp .ge 30, 3) := by decide +kernel
theorem dX0_giveUnit_10 : decode cX0_giveUnit 10 = .ok (.aload_n 0, 1) := by decide +kernel
theorem dX0_giveUnit_11 : decode cX0_giveUnit 11 = .ok (.getfield 15, 3) := by decide +kernel
theorem dX0_giveUnit_14 : decode cX0_giveUnit 14 = .ok (.iload_n 2, 1) := by decide +kernel
theorem dX0_giveUnit_15 : decode cX0_giveUnit 15 = .ok (.iaload, 1) := by decide +kernel
theorem dX0_giveUnit_16 : decode cX0_giveUnit 16 = .ok (.aload_n 0, 1) := by decide +kernel
theorem dX0_giveUnit_17 : decode cX0_giveUnit 17 = .ok (.getfield 15, 3) := by decide +kernel
theorem dX0_giveUnit_20 : decode cX0_giveUnit 20 = .ok (.iload_n 1, 1) := by decide +kernel
theorem dX0_giveUnit_21 : decode cX0_giveUnit 21 = .ok (.iaload, 1) := by decide +kernel
theorem dX0_giveUnit_22 : decode cX0_giveUnit 22 = .ok (.if_icmp .le 7, 3) := by decide +kernel
theorem dX0_giveUnit_25 : decode cX0_giveUnit 25 = .ok (.iload_n 2, 1) := by decide +kernel
theorem dX0_giveUnit_26 : decode cX0_giveUnit 26 = .ok (.goto 4, 3) := by decide +kernel
theorem dX0_giveUnit_29 : decode cX0_giveUnit 29 = .ok (.iload_n 1, 1) := by decide +kernel
theorem dX0_giveUnit_30 : decode cX0_giveUnit 30 = .ok (.istore_n 1, 1) := by decide +kernel
theorem dX0_giveUnit_31 : decode cX0_giveUnit 31 = .ok (.iinc 2 1, 3) := by decide +kernel
theorem dX0_giveUnit_34 : decode cX0_giveUnit 34 = .ok (.goto (-30), 3) := by decide +kernel
theorem dX0_giveUnit_37 : decode cX0_giveUnit 37 = .ok (.aload_n 0, 1) := by decide +kernel
theorem dX0_giveUnit_38 : decode cX0_giveUnit 38 = .ok (.getfield 9, 3) := by decide +kernel
theorem dX0_giveUnit_41 : decode cX0_giveUnit 41 = .ok (.iload_n 1, 1) := by decide +kernel
theorem dX0_giveUnit_42 : decode cX0_giveUnit 42 = .ok (.dup2, 1) := by decide +kernel
theorem dX0_giveUnit_43 : decode cX0_giveUnit 43 = .ok (.iaload, 1) := by decide +kernel
theorem dX0_giveUnit_44 : decode cX0_giveUnit 44 = .ok (.iconst 1, 1) := by decide +kernel
theorem dX0_giveUnit_45 : decode cX0_giveUnit 45 = .ok (.iadd, 1) := by decide +kernel
theorem dX0_giveUnit_46 : decode cX0_giveUnit 46 = .ok (.iastore, 1) := by decide +kernel
theorem dX0_giveUnit_47 : decode cX0_giveUnit 47 = .ok (.aload_n 0, 1) := by decide +kernel
theorem dX0_giveUnit_48 : decode cX0_giveUnit 48 = .ok (.getfield 15, 3) := by decide +kernel
theorem dX0_giveUnit_51 : decode cX0_giveUnit 51 = .ok (.iload_n 1, 1) := by decide +kernel
theorem dX0_giveUnit_52 : decode cX0_giveUnit 52 = .ok (.iconst 0, 1) := by decide +kernel
theorem dX0_giveUnit_53 : decode cX0_giveUnit 53 = .ok (.iastore, 1) := by decide +kernel
theorem dX0_giveUnit_54 : decode cX0_giveUnit 54 = .ok (.return_, 1) := by decide +kernel
theorem dX0_cutToCap_0 : decode cX0_cutToCap 0 = .ok (.iconst 0, 1) := by decide +kernel
theorem dX0_cutToCap_1 : decode cX0_cutToCap 1 = .ok (.istore 4, 2) := by decide +kernel
theorem dX0_cutToCap_3 : decode cX0_cutToCap 3 = .ok (.iload 4, 2) := by decide +kernel
theorem dX0_cutToCap_5 : decode cX0_cutToCap 5 = .ok (.bipush 12, 2) := by decide +kernel
theorem dX0_cutToCap_7 : decode cX0_cutToCap 7 = .ok (.if_icmp .ge 67, 3) := by decide +kernel
theorem dX0_cutToCap_10 : decode cX0_cutToCap 10 = .ok (.iconst 0, 1) := by decide +kernel
theorem dX0_cutToCap_11 : decode cX0_cutToCap 11 = .ok (.iload_n 3, 1) := by decide +kernel
theorem dX0_cutToCap_12 : decode cX0_cutToCap 12 = .ok (.aload_n 1, 1) := by decide +kernel
theorem dX0_cutToCap_13 : decode cX0_cutToCap 13 = .ok (.getfield 84, 3) := by decide +kernel
theorem dX0_cutToCap_16 : decode cX0_cutToCap 16 = .ok (.iload_n 2, 1) := by decide +kernel
theorem dX0_cutToCap_17 : decode cX0_cutToCap 17 = .ok (.iload 4, 2) := by decide +kernel
theorem dX0_cutToCap_19 : decode cX0_cutToCap 19 = .ok (.invokestatic 78, 3) := by decide +kernel
theorem dX0_cutToCap_22 : decode cX0_cutToCap 22 = .ok (.iaload, 1) := by decide +kernel
theorem dX0_cutToCap_23 : decode cX0_cutToCap 23 = .ok (.isub, 1) := by decide +kernel
theorem dX0_cutToCap_24 : decode cX0_cutToCap 24 = .ok (.invokestatic 69, 3) := by decide +kernel
theorem dX0_cutToCap_27 : decode cX0_cutToCap 27 = .ok (.istore 5, 2) := by decide +kernel
theorem dX0_cutToCap_29 : decode cX0_cutToCap 29 = .ok (.iconst 0, 1) := by decide +kernel
theorem dX0_cutToCap_30 : decode cX0_cutToCap 30 = .ok (.aload_n 0, 1) := by decide +kernel
theorem dX0_cutToCap_31 : decode cX0_cutToCap 31 = .ok (.getfield 9, 3) := by decide +kernel
theorem dX0_cutToCap_34 : decode cX0_cutToCap 34 = .ok (.iload 4, 2) := by decide +kernel
theorem dX0_cutToCap_36 : decode cX0_cutToCap 36 = .ok (.iaload, 1) := by decide +kernel
theorem dX0_cutToCap_37 : decode cX0_cutToCap 37 = .ok (.iload 5, 2) := by decide +kernel
theorem dX0_cutToCap_39 : decode cX0_cutToCap 39 = .ok (.isub, 1) := by decide +kernel
theorem dX0_cutToCap_40 : decode cX0_cutToCap 40 = .ok (.invokestatic 69, 3) := by decide +kernel
theorem dX0_cutToCap_43 : decode cX0_cutToCap 43 = .ok (.istore 6, 2) := by decide +kernel
theorem dX0_cutToCap_45 : decode cX0_cutToCap 45 = .ok (.aload_n 0, 1) := by decide +kernel
theorem dX0_cutToCap_46 : decode cX0_cutToCap 46 = .ok (.getfield 9, 3) := by decide +kernel
theorem dX0_cutToCap_49 : decode cX0_cutToCap 49 = .ok (.iload 4, 2) := by decide +kernel
theorem dX0_cutToCap_51 : decode cX0_cutToCap 51 = .ok (.dup2, 1) := by decide +kernel
theorem dX0_cutToCap_52 : decode cX0_cutToCap 52 = .ok (.iaload, 1) := by decide +kernel
theorem dX0_cutToCap_53 : decode cX0_cutToCap 53 = .ok (.iload 6, 2) := by decide +kernel
theorem dX0_cutToCap_55 : decode cX0_cutToCap 55 = .ok (.isub, 1) := by decide +kernel
theorem dX0_cutToCap_56 : decode cX0_cutToCap 56 = .ok (.iastore, 1) := by decide +kernel
theorem dX0_cutToCap_57 : decode cX0_cutToCap 57 = .ok (.aload_n 0, 1) := by decide +kernel
theorem dX0_cutToCap_58 : decode cX0_cutToCap 58 = .ok (.dup, 1) := by decide +kernel
theorem dX0_cutToCap_59 : decode cX0_cutToCap 59 = .ok (.getfield 45, 3) := by decide +kernel
theorem dX0_cutToCap_62 : decode cX0_cutToCap 62 = .ok (.iload 6, 2) := by decide +kernel
theorem dX0_cutToCap_64 : decode cX0_cutToCap 64 = .ok (.iadd, 1) := by decide +kernel
theorem dX0_cutToCap_65 : decode cX0_cutToCap 65 = .ok (.putfield 45, 3) := by decide +kernel
theorem dX0_cutToCap_68 : decode cX0_cutToCap 68 = .ok (.iinc 4 1, 3) := by decide +kernel
theorem dX0_cutToCap_71 : decode cX0_cutToCap 71 = .ok (.goto (-68), 3) := by decide +kernel
theorem dX0_cutToCap_74 : decode cX0_cutToCap 74 = .ok (.return_, 1) := by decide +kernel
end
section
theorem dX1_init_0 : decode cX1_init 0 = .ok (.aload_n 0, 1) := by decide +kernel
theorem dX1_init_1 : decode cX1_init 1 = .ok (.invokespecial 3, 3) := by decide +kernel
theorem dX1_init_4 : decode cX1_init 4 = .ok (.aload_n 0, 1) := by decide +kernel
theorem dX1_init_5 : decode cX1_init 5 = .ok (.bipush 12, 2) := by decide +kernel
theorem dX1_init_7 : decode cX1_init 7 = .ok (.newarray .int, 2) := by decide +kernel
theorem dX1_init_9 : decode cX1_init 9 = .ok (.putfield 9, 3) := by decide +kernel
theorem dX1_init_12 : decode cX1_init 12 = .ok (.aload_n 0, 1) := by decide +kernel
theorem dX1_init_13 : decode cX1_init 13 = .ok (.iconst 4, 1) := by decide +kernel
theorem dX1_init_14 : decode cX1_init 14 = .ok (.newarray .int, 2) := by decide +kernel
theorem dX1_init_16 : decode cX1_init 16 = .ok (.putfield 15, 3) := by decide +kernel
theorem dX1_init_19 : decode cX1_init 19 = .ok (.aload_n 0, 1) := by decide +kernel
theorem dX1_init_20 : decode cX1_init 20 = .ok (.iconst 4, 1) := by decide +kernel
theorem dX1_init_21 : decode cX1_init 21 = .ok (.newarray .int, 2) := by decide +kernel
theorem dX1_init_23 : decode cX1_init 23 = .ok (.putfield 18, 3) := by decide +kernel
theorem dX1_init_26 : decode cX1_init 26 = .ok (.aload_n 0, 1) := by decide +kernel
theorem dX1_init_27 : decode cX1_init 27 = .ok (.iconst 4, 1) := by decide +kernel
theorem dX1_init_28 : decode cX1_init 28 = .ok (.newarray .int, 2) := by decide +kernel
theorem dX1_init_30 : decode cX1_init 30 = .ok (.putfield 21, 3) := by decide +kernel
theorem dX1_init_33 : decode cX1_init 33 = .ok (.return_, 1) := by decide +kernel
theorem dX1_find_0 : decode cX1_find 0 = .ok (.aload_n 0, 1) := by decide +kernel
theorem dX1_find_1 : decode cX1_find 1 = .ok (.aload_n 1, 1) := by decide +kernel
theorem dX1_find_2 : decode cX1_find 2 = .ok (.iload_n 2, 1) := by decide +kernel
theorem dX1_find_3 : decode cX1_find 3 = .ok (.invokevirtual 24, 3) := by decide +kernel
theorem dX1_find_6 : decode cX1_find 6 = .ok (.aload_n 0, 1) := by decide +kernel
theorem dX1_find_7 : decode cX1_find 7 = .ok (.getfield 28, 3) := by decide +kernel
theorem dX1_find_10 : decode cX1_find 10 = .ok (.ifCond .ne 7, 3) := by decide +kernel
theorem dX1_find_13 : decode cX1_find 13 = .ok (.iconst 0, 1) := by decide +kernel
theorem dX1_find_14 : decode cX1_find 14 = .ok (.goto 11, 3) := by decide +kernel
theorem dX1_find_17 : decode cX1_find 17 = .ok (.iconst 1, 1) := by decide +kernel
theorem dX1_find_18 : decode cX1_find 18 = .ok (.iconst 2, 1) := by decide +kernel
theorem dX1_find_19 : decode cX1_find 19 = .ok (.aload_n 0, 1) := by decide +kernel
theorem dX1_find_20 : decode cX1_find 20 = .ok (.getfield 28, 3) := by decide +kernel
theorem dX1_find_23 : decode cX1_find 23 = .ok (.imul, 1) := by decide +kernel
theorem dX1_find_24 : decode cX1_find 24 = .ok (.ishl, 1) := by decide +kernel
theorem dX1_find_25 : decode cX1_find 25 = .ok (.istore_n 3, 1) := by decide +kernel
theorem dX1_find_26 : decode cX1_find 26 = .ok (.iconst 1, 1) := by decide +kernel
theorem dX1_find_27 : decode cX1_find 27 = .ok (.istore 4, 2) := by decide +kernel
theorem dX1_find_29 : decode cX1_find 29 = .ok (.iconst 0, 1) := by decide +kernel
theorem dX1_find_30 : decode cX1_find 30 = .ok (.istore 5, 2) := by decide +kernel
theorem dX1_find_32 : decode cX1_find 32 = .ok (.iconst 0, 1) := by decide +kernel
theorem dX1_find_33 : decode cX1_find 33 = .ok (.istore 6, 2) := by decide +kernel
theorem dX1_find_35 : decode cX1_find 35 = .ok (.iload 6, 2) := by decide +kernel
theorem dX1_find_37 : decode cX1_find 37 = .ok (.iload_n 3, 1) := by decide +kernel
theorem dX1_find_38 : decode cX1_find 38 = .ok (.if_icmp .ge 72, 3) := by decide +kernel
theorem dX1_find_41 : decode cX1_find 41 = .ok (.iload 4, 2) := by decide +kernel
theorem dX1_find_43 : decode cX1_find 43 = .ok (.ifCond .le 67, 3) := by decide +kernel
theorem dX1_find_46 : decode cX1_find 46 = .ok (.aload_n 0, 1) := by decide +kernel
theorem dX1_find_47 : decode cX1_find 47 = .ok (.iload 6, 2) := by decide +kernel
theorem dX1_find_49 : decode cX1_find 49 = .ok (.invokevirtual 32, 3) := by decide +kernel
theorem dX1_find_52 : decode cX1_find 52 = .ok (.istore 7, 2) := by decide +kernel
theorem dX1_find_54 : decode cX1_find 54 = .ok (.aload_n 0, 1) := by decide +kernel
theorem dX1_find_55 : decode cX1_find 55 = .ok (.iload 7, 2) := by decide +kernel
theorem dX1_find_57 : decode cX1_find 57 = .ok (.invokevirtual 36, 3) := by decide +kernel
theorem dX1_find_60 : decode cX1_find 60 = .ok (.istore 8, 2) := by decide +kernel
theorem dX1_find_62 : decode cX1_find 62 = .ok (.iload 8, 2) := by decide +kernel
theorem dX1_find_64 : decode cX1_find 64 = .ok (.iload 5, 2) := by decide +kernel
theorem dX1_find_66 : decode cX1_find 66 = .ok (.imul, 1) := by decide +kernel
theorem dX1_find_67 : decode cX1_find 67 = .ok (.iload 4, 2) := by decide +kernel
theorem dX1_find_69 : decode cX1_find 69 = .ok (.iload 7, 2) := by decide +kernel
theorem dX1_find_71 : decode cX1_find 71 = .ok (.imul, 1) := by decide +kernel
theorem dX1_find_72 : decode cX1_find 72 = .ok (.isub, 1) := by decide +kernel
theorem dX1_find_73 : decode cX1_find 73 = .ok (.istore 9, 2) := by decide +kernel
theorem dX1_find_75 : decode cX1_find 75 = .ok (.iload 9, 2) := by decide +kernel
theorem dX1_find_77 : decode cX1_find 77 = .ok (.ifCond .lt 15, 3) := by decide +kernel
theorem dX1_find_80 : decode cX1_find 80 = .ok (.iload 9, 2) := by decide +kernel
theorem dX1_find_82 : decode cX1_find 82 = .ok (.ifCond .ne 22, 3) := by decide +kernel
theorem dX1_find_85 : decode cX1_find 85 = .ok (.iload 7, 2) := by decide +kernel
theorem dX1_find_87 : decode cX1_find 87 = .ok (.iload 5, 2) := by decide +kernel
theorem dX1_find_89 : decode cX1_find 89 = .ok (.if_icmp .ge 15, 3) := by decide +kernel
theorem dX1_find_92 : decode cX1_find 92 = .ok (.iload 8, 2) := by decide +kernel
theorem dX1_find_94 : decode cX1_find 94 = .ok (.istore 4, 2) := by decide +kernel
theorem dX1_find_96 : decode cX1_find 96 = .ok (.iload 7, 2) := by decide +kernel
theorem dX1_find_98 : decode cX1_find 98 = .ok (.istore 5, 2) := by decide +kernel
theorem dX1_find_100 : decode cX1_find 100 = .ok (.aload_n 0, 1) := by decide +kernel
theorem dX1_find_101 : decode cX1_find 101 = .ok (.invokevirtual 39, 3) := by decide +kernel
theorem dX1_find_104 : decode cX1_find 104 = .ok (.iinc 6 1, 3) := by decide +kernel
theorem dX1_find_107 : decode cX1_find 107 = .ok (.goto (-72), 3) := by decide +kernel
theorem dX1_find_110 : decode cX1_find 110 = .ok (.return_, 1) := by decide +kernel
theorem dX1_begin_0 : decode cX1_begin 0 = .ok (.aload_n 1, 1) := by decide +kernel
theorem dX1_begin_1 : decode cX1_begin 1 = .ok (.iload_n 2, 1) := by decide +kernel
theorem dX1_begin_2 : decode cX1_begin 2 = .ok (.invokevirtual 42, 3) := by decide +kernel
theorem dX1_begin_5 : decode cX1_begin 5 = .ok (.istore_n 3, 1) := by decide +kernel
theorem dX1_begin_6 : decode cX1_begin 6 = .ok (.aload_n 0, 1) := by decide +kernel
theorem dX1_begin_7 : decode cX1_begin 7 = .ok (.iconst 0, 1) := by decide +kernel
theorem dX1_begin_8 : decode cX1_begin 8 = .ok (.putfield 28, 3) := by decide +kernel
theorem dX1_begin_11 : decode cX1_begin 11 = .ok (.aload_n 0, 1) := by decide +kernel
theorem dX1_begin_12 : decode cX1_begin 12 = .ok (.iconst 0, 1) := by decide +kernel
theorem dX1_begin_13 : decode cX1_begin 13 = .ok (.putfield 46, 3) := by decide +kernel
theorem dX1_begin_16 : decode cX1_begin 16 = .ok (.iconst 0, 1) := by decide +kernel
theorem dX1_begin_17 : decode cX1_begin 17 = .ok (.istore 4, 2) := by decide +kernel
theorem dX1_begin_19 : decode cX1_begin 19 = .ok (.iload 4, 2) := by decide +kernel
theorem dX1_begin_21 : decode cX1_begin 21 = .ok (.bipush 12, 2) := by decide +kernel
theorem dX1_begin_23 : decode cX1_begin 23 = .ok (.if_icmp .ge 93, 3) := by decide +kernel
theorem dX1_begin_26 : decode cX1_begin 26 = .ok (.aload_n 0, 1) := by decide +kernel
theorem dX1_begin_27 : decode cX1_begin 27 = .ok (.getfield 9, 3) := by decide +kernel
theorem dX1_begin_30 : decode cX1_begin 30 = .ok (.iload 4, 2) := by decide +kernel
theorem dX1_begin_32 : decode cX1_begin 32 = .ok (.iconst 0, 1) := by decide +kernel
theorem dX1_begin_33 : decode cX1_begin 33 = .ok (.iastore, 1) := by decide +kernel
theorem dX1_begin_34 : decode cX1_begin 34 = .ok (.iload_n 3, 1) := by decide +kernel
theorem dX1_begin_35 : decode cX1_begin 35 = .ok (.iload 4, 2) := by decide +kernel
theorem dX1_begin_37 : decode cX1_begin 37 = .ok (.invokestatic 49, 3) := by decide +kernel
theorem dX1_begin_40 : decode cX1_begin 40 = .ok (.ifCond .eq 70, 3) := by decide +kernel
theorem dX1_begin_43 : decode cX1_begin 43 = .ok (.aload_n 0, 1) := by decide +kernel
theorem dX1_begin_44 : decode cX1_begin 44 = .ok (.getfield 28, 3) := by decide +kernel
theorem dX1_begin_47 : decode cX1_begin 47 = .ok (.iconst 4, 1) := by decide +kernel
theorem dX1_begin_48 : decode cX1_begin 48 = .ok (.if_icmp .ge 62, 3) := by decide +kernel
theorem dX1_begin_51 : decode cX1_begin 51 = .ok (.aload_n 0, 1) := by decide +kernel
theorem dX1_begin_52 : decode cX1_begin 52 = .ok (.getfield 15, 3) := by decide +kernel
theorem dX1_begin_55 : decode cX1_begin 55 = .ok (.aload_n 0, 1) := by decide +kernel
theorem dX1_begin_56 : decode cX1_begin 56 = .ok (.getfield 28, 3) := by decide +kernel
theorem dX1_begin_59 : decode cX1_begin 59 = .ok (.iload 4, 2) := by decide +kernel
theorem dX1_begin_61 : decode cX1_begin 61 = .ok (.iastore, 1) := by decide +kernel
theorem dX1_begin_62 : decode cX1_begin 62 = .ok (.aload_n 0, 1) := by decide +kernel
theorem dX1_begin_63 : decode cX1_begin 63 = .ok (.getfield 18, 3) := by decide +kernel
theorem dX1_begin_66 : decode cX1_begin 66 = .ok (.aload_n 0, 1) := by decide +kernel
theorem dX1_begin_67 : decode cX1_begin 67 = .ok (.getfield 28, 3) := by decide +kernel
theorem dX1_begin_70 : decode cX1_begin 70 = .ok (.aload_n 1, 1) := by decide +kernel
theorem dX1_begin_71 : decode cX1_begin 71 = .ok (.getfield 53, 3) := by decide +kernel
theorem dX1_begin_74 : decode cX1_begin 74 = .ok (.iload_n 2, 1) := by decide +kernel
theorem dX1_begin_75 : decode cX1_begin 75 = .ok (.iload 4, 2) := by decide +kernel
theorem dX1_begin_77 : decode cX1_begin 77 = .ok (.invokestatic 54, 3) := by decide +kernel
theorem dX1_begin_80 : decode cX1_begin 80 = .ok (.iaload, 1) := by decide +kernel
theorem dX1_begin_81 : decode cX1_begin 81 = .ok (.iastore, 1) := by decide +kernel
theorem dX1_begin_82 : decode cX1_begin 82 = .ok (.aload_n 0, 1) := by decide +kernel
theorem dX1_begin_83 : decode cX1_begin 83 = .ok (.dup, 1) := by decide +kernel
theorem dX1_begin_84 : decode cX1_begin 84 = .ok (.getfield 46, 3) := by decide +kernel
theorem dX1_begin_87 : decode cX1_begin 87 = .ok (.aload_n 0, 1) := by decide +kernel
theorem dX1_begin_88 : decode cX1_begin 88 = .ok (.getfield 18, 3) := by decide +kernel
theorem dX1_begin_91 : decode cX1_begin 91 = .ok (.aload_n 0, 1) := by decide +kernel
theorem dX1_begin_92 : decode cX1_begin 92 = .ok (.getfield 28, 3) := by decide +kernel
theorem dX1_begin_95 : decode cX1_begin 95 = .ok (.iaload, 1) := by decide +kernel
theorem dX1_begin_96 : decode cX1_begin 96 = .ok (.iadd, 1) := by decide +kernel
theorem dX1_begin_97 : decode cX1_begin 97 = .ok (.putfield 46, 3) := by decide +kernel
theorem dX1_begin_100 : decode cX1_begin 100 = .ok (.aload_n 0, 1) := by decide +kernel
theorem dX1_begin_101 : decode cX1_begin 101 = .ok (.dup, 1) := by decide +kernel
theorem dX1_begin_102 : decode cX1_begin 102 = .ok (.getfield 28, 3) := by decide +kernel
theorem dX1_begin_105 : decode cX1_begin 105 = .ok (.iconst 1, 1) := by decide +kernel
theorem dX1_begin_106 : decode cX1_begin 106 = .ok (.iadd, 1) := by decide +kernel
theorem dX1_begin_107 : decode cX1_begin 107 = .ok (.putfield 28, 3) := by decide +kernel
theorem dX1_begin_110 : decode cX1_begin 110 = .ok (.iinc 4 1, 3) := by decide +kernel
theorem dX1_begin_113 : decode cX1_begin 113 = .ok (.goto (-94), 3) := by decide +kernel
theorem dX1_begin_116 : decode cX1_begin 116 = .ok (.return_, 1) := by decide +kernel
theorem dX1_setTrial_0 : decode cX1_setTrial 0 = .ok (.iload_n 1, 1) := by decide +kernel
theorem dX1_setTrial_1 : decode cX1_setTrial 1 = .ok (.istore_n 2, 1) := by decide +kernel
theorem dX1_setTrial_2 : decode cX1_setTrial 2 = .ok (.iconst 0, 1) := by decide +kernel
theorem dX1_setTrial_3 : decode cX1_setTrial 3 = .ok (.istore_n 3, 1) := by decide +kernel
theorem dX1_setTrial_4 : decode cX1_setTrial 4 = .ok (.aload_n 0, 1) := by decide +kernel
theorem dX1_setTrial_5 : decode cX1_setTrial 5 = .ok (.getfield 28, 3) := by decide +kernel
theorem dX1_setTrial_8 : decode cX1_setTrial 8 = .ok (.iconst 1, 1) := by decide +kernel
theorem dX1_setTrial_9 : decode cX1_setTrial 9 = .ok (.isub, 1) := by decide +kernel
theorem dX1_setTrial_10 : decode cX1_setTrial 10 = .ok (.istore 4, 2) := by decide +kernel
theorem dX1_setTrial_12 : decode cX1_setTrial 12 = .ok (.iload 4, 2) := by decide +kernel
theorem dX1_setTrial_14 : decode cX1_setTrial 14 = .ok (.ifCond .lt 35, 3) := by decide +kernel
theorem dX1_setTrial_17 : decode cX1_setTrial 17 = .ok (.aload_n 0, 1) := by decide +kernel
theorem dX1_setTrial_18 : decode cX1_setTrial 18 = .ok (.getfield 21, 3) := by decide +kernel
theorem dX1_setTrial_21 : decode cX1_setTrial 21 = .ok (.iload 4, 2) := by decide +kernel
theorem dX1_setTrial_23 : decode cX1_setTrial 23 = .ok (.iload_n 2, 1) := by decide +kernel
theorem dX1_setTrial_24 : decode cX1_setTrial 24 = .ok (.iconst 4, 1) := by decide +kernel
theorem dX1_setTrial_25 : decode cX1_setTrial 25 = .ok (.irem, 1) := by decide +kernel
theorem dX1_setTrial_26 : decode cX1_setTrial 26 = .ok (.iconst 1, 1) := by decide +kernel
theorem dX1_setTrial_27 : decode cX1_setTrial 27 = .ok (.iadd, 1) := by decide +kernel
theorem dX1_setTrial_28 : decode cX1_setTrial 28 = .ok (.iastore, 1) := by decide +kernel
theorem dX1_setTrial_29 : decode cX1_setTrial 29 = .ok (.iload_n 2, 1) := by decide +kernel
theorem dX1_setTrial_30 : decode cX1_setTrial 30 = .ok (.iconst 4, 1) := by decide +kernel
theorem dX1_setTrial_31 : decode cX1_setTrial 31 = .ok (.idiv, 1) := by decide +kernel
theorem dX1_setTrial_32 : decode cX1_setTrial 32 = .ok (.istore_n 2, 1) := by decide +kernel
theorem dX1_setTrial_33 : decode cX1_setTrial 33 = .ok (.iload_n 3, 1) := by decide +kernel
theorem dX1_setTrial_34 : decode cX1_setTrial 34 = .ok (.aload_n 0, 1) := by decide +kernel
theorem dX1_setTrial_35 : decode cX1_setTrial 35 = .ok (.getfield 21, 3) := by decide +kernel
theorem dX1_setTrial_38 : decode cX1_setTrial 38 = .ok (.iload 4, 2) := by decide +kernel
theorem dX1_setTrial_40 : decode cX1_setTrial 40 = .ok (.iaload, 1) := by decide +kernel
theorem dX1_setTrial_41 : decode cX1_setTrial 41 = .ok (.iadd, 1) := by decide +kernel
theorem dX1_setTrial_42 : decode cX1_setTrial 42 = .ok (.istore_n 3, 1) := by decide +kernel
theorem dX1_setTrial_43 : decode cX1_setTrial 43 = .ok (.iinc 4 (-1), 3) := by decide +kernel
theorem dX1_setTrial_46 : decode cX1_setTrial 46 = .ok (.goto (-34), 3) := by decide +kernel
theorem dX1_setTrial_49 : decode cX1_setTrial 49 = .ok (.iload_n 3, 1) := by decide +kernel
theorem dX1_setTrial_50 : decode cX1_setTrial 50 = .ok (.ireturn, 1) := by decide +kernel
theorem dX1_gap_0 : decode cX1_gap 0 = .ok (.iconst 0, 1) := by decide +kernel
theorem dX1_gap_1 : decode cX1_gap 1 = .ok (.istore_n 2, 1) := by decide +kernel
theorem dX1_gap_2 : decode cX1_gap 2 = .ok (.iconst 0, 1) := by decide +kernel
theorem dX1_gap_3 : decode cX1_gap 3 = .ok (.istore_n 3, 1) := by decide +kernel
theorem dX1_gap_4 : decode cX1_gap 4 = .ok (.iload_n 3, 1) := by decide +kernel
theorem dX1_gap_5 : decode cX1_gap 5 = .ok (.aload_n 0, 1) := by decide +kernel
theorem dX1_gap_6 : decode cX1_gap 6 = .ok (.getfield 28, 3) := by decide +kernel
theorem dX1_gap_9 : decode cX1_gap 9 = .ok (.if_icmp .ge 37, 3) := by decide +kernel
theorem dX1_gap_12 : decode cX1_gap 12 = .ok (.iload_n 2, 1) := by decide +kernel
theorem dX1_gap_13 : decode cX1_gap 13 = .ok (.aload_n 0, 1) := by decide +kernel
theorem dX1_gap_14 : decode cX1_gap 14 = .ok (.getfield 21, 3) := by decide +kernel
theorem dX1_gap_17 : decode cX1_gap 17 = .ok (.iload_n 3, 1) := by decide +kernel
theorem dX1_gap_18 : decode cX1_gap 18 = .ok (.iaload, 1) := by decide +kernel
theorem dX1_gap_19 : decode cX1_gap 19 = .ok (.aload_n 0, 1) := by decide +kernel
theorem dX1_gap_20 : decode cX1_gap 20 = .ok (.getfield 46, 3) := by decide +kernel
theorem dX1_gap_23 : decode cX1_gap 23 = .ok (.imul, 1) := by decide +kernel
theorem dX1_gap_24 : decode cX1_gap 24 = .ok (.aload_n 0, 1) := by decide +kernel
theorem dX1_gap_25 : decode cX1_gap 25 = .ok (.getfield 18, 3) := by decide +kernel
theorem dX1_gap_28 : decode cX1_gap 28 = .ok (.iload_n 3, 1) := by decide +kernel
theorem dX1_gap_29 : decode cX1_gap 29 = .ok (.iaload, 1) := by decide +kernel
theorem dX1_gap_30 : decode cX1_gap 30 = .ok (.iload_n 1, 1) := by decide +kernel
theorem dX1_gap_31 : decode cX1_gap 31 = .ok (.imul, 1) := by decide +kernel
theorem dX1_gap_32 : decode cX1_gap 32 = .ok (.isub, 1) := by decide +kernel
theorem dX1_gap_33 : decode cX1_gap 33 = .ok (.invokestatic 58, 3) := by decide +kernel
theorem dX1_gap_36 : decode cX1_gap 36 = .ok (.invokestatic 63, 3) := by decide +kernel
theorem dX1_gap_39 : decode cX1_gap 39 = .ok (.istore_n 2, 1) := by decide +kernel
theorem dX1_gap_40 : decode cX1_gap 40 = .ok (.iinc 3 1, 3) := by decide +kernel
theorem dX1_gap_43 : decode cX1_gap 43 = .ok (.goto (-39), 3) := by decide +kernel
theorem dX1_gap_46 : decode cX1_gap 46 = .ok (.iload_n 2, 1) := by decide +kernel
theorem dX1_gap_47 : decode cX1_gap 47 = .ok (.ireturn, 1) := by decide +kernel
theorem dX1_keepTrial_0 : decode cX1_keepTrial 0 = .ok (.iconst 0, 1) := by decide +kernel
theorem dX1_keepTrial_1 : decode cX1_keepTrial 1 = .ok (.istore_n 1, 1) := by decide +kernel
theorem dX1_keepTrial_2 : decode cX1_keepTrial 2 = .ok (.iload_n 1, 1) := by decide +kernel
theorem dX1_keepTrial_3 : decode cX1_keepTrial 3 = .ok (.aload_n 0, 1) := by decide +kernel
theorem dX1_keepTrial_4 : decode cX1_keepTrial 4 = .ok (.getfield 28, 3) := by decide +kernel
theorem dX1_keepTrial_7 : decode cX1_keepTrial 7 = .ok (.if_icmp .ge 26, 3) := by decide +kernel
theorem dX1_keepTrial_10 : decode cX1_keepTrial 10 = .ok (.aload_n 0, 1) := by decide +kernel
theorem dX1_keepTrial_11 : decode cX1_keepTrial 11 = .ok (.getfield 9, 3) := by decide +kernel
theorem dX1_keepTrial_14 : decode cX1_keepTrial 14 = .ok (.aload_n 0, 1) := by decide +kernel
theorem dX1_keepTrial_15 : decode cX1_keepTrial 15 = .ok (.getfield 15, 3) := by decide +kernel
theorem dX1_keepTrial_18 : decode cX1_keepTrial 18 = .ok (.iload_n 1, 1) := by decide +kernel
theorem dX1_keepTrial_19 : decode cX1_keepTrial 19 = .ok (.iaload, 1) := by decide +kernel
theorem dX1_keepTrial_20 : decode cX1_keepTrial 20 = .ok (.aload_n 0, 1) := by decide +kernel
theorem dX1_keepTrial_21 : decode cX1_keepTrial 21 = .ok (.getfield 21, 3) := by decide +kernel
theorem dX1_keepTrial_24 : decode cX1_keepTrial 24 = .ok (.iload_n 1, 1) := by decide +kernel
theorem dX1_keepTrial_25 : decode cX1_keepTrial 25 = .ok (.iaload, 1) := by decide +kernel
theorem dX1_keepTrial_26 : decode cX1_keepTrial 26 = .ok (.iastore, 1) := by decide +kernel
theorem dX1_keepTrial_27 : decode cX1_keepTrial 27 = .ok (.iinc 1 1, 3) := by decide +kernel
theorem dX1_keepTrial_30 : decode cX1_keepTrial 30 = .ok (.goto (-28), 3) := by decide +kernel
theorem dX1_keepTrial_33 : decode cX1_keepTrial 33 = .ok (.return_, 1) := by decide +kernel
end
section
theorem dX2_init_0 : decode cX2_init 0 = .ok (.aload_n 0, 1) := by decide +kernel
theorem dX2_init_1 : decode cX2_init 1 = .ok (.invokespecial 3, 3) := by decide +kernel
theorem dX2_init_4 : decode cX2_init 4 = .ok (.aload_n 0, 1) := by decide +kernel
theorem dX2_init_5 : decode cX2_init 5 = .ok (.bipush 60, 2) := by decide +kernel
theorem dX2_init_7 : decode cX2_init 7 = .ok (.newarray .int, 2) := by decide +kernel
theorem dX2_init_9 : decode cX2_init 9 = .ok (.putfield 11, 3) := by decide +kernel
theorem dX2_init_12 : decode cX2_init 12 = .ok (.aload_n 0, 1) := by decide +kernel
theorem dX2_init_13 : decode cX2_init 13 = .ok (.bipush 12, 2) := by decide +kernel
theorem dX2_init_15 : decode cX2_init 15 = .ok (.newarray .int, 2) := by decide +kernel
theorem dX2_init_17 : decode cX2_init 17 = .ok (.putfield 15, 3) := by decide +kernel
theorem dX2_init_20 : decode cX2_init 20 = .ok (.return_, 1) := by decide +kernel
theorem dX2_isList_0 : decode cX2_isList 0 = .ok (.aload_n 0, 1) := by decide +kernel
theorem dX2_isList_1 : decode cX2_isList 1 = .ok (.invokevirtual 18, 3) := by decide +kernel
theorem dX2_isList_4 : decode cX2_isList 4 = .ok (.aload_n 0, 1) := by decide +kernel
theorem dX2_isList_5 : decode cX2_isList 5 = .ok (.getfield 22, 3) := by decide +kernel
theorem dX2_isList_8 : decode cX2_isList 8 = .ok (.if_icmp .lt 18, 3) := by decide +kernel
theorem dX2_isList_11 : decode cX2_isList 11 = .ok (.aload_n 0, 1) := by decide +kernel
theorem dX2_isList_12 : decode cX2_isList 12 = .ok (.getfield 26, 3) := by decide +kernel
theorem dX2_isList_15 : decode cX2_isList 15 = .ok (.ifCond .eq 11, 3) := by decide +kernel
theorem dX2_isList_18 : decode cX2_isList 18 = .ok (.aload_n 0, 1) := by decide +kernel
theorem dX2_isList_19 : decode cX2_isList 19 = .ok (.getfield 26, 3) := by decide +kernel
theorem dX2_isList_22 : decode cX2_isList 22 = .ok (.iconst 3, 1) := by decide +kernel
theorem dX2_isList_23 : decode cX2_isList 23 = .ok (.if_icmp .ne 5, 3) := by decide +kernel
theorem dX2_isList_26 : decode cX2_isList 26 = .ok (.iconst 0, 1) := by decide +kernel
theorem dX2_isList_27 : decode cX2_isList 27 = .ok (.ireturn, 1) := by decide +kernel
theorem dX2_isList_28 : decode cX2_isList 28 = .ok (.aload_n 0, 1) := by decide +kernel
theorem dX2_isList_29 : decode cX2_isList 29 = .ok (.getfield 15, 3) := by decide +kernel
theorem dX2_isList_32 : decode cX2_isList 32 = .ok (.aload_n 0, 1) := by decide +kernel
theorem dX2_isList_33 : decode cX2_isList 33 = .ok (.getfield 29, 3) := by decide +kernel
theorem dX2_isList_36 : decode cX2_isList 36 = .ok (.iaload, 1) := by decide +kernel
theorem dX2_isList_37 : decode cX2_isList 37 = .ok (.ifCond .eq 5, 3) := by decide +kernel
theorem dX2_isList_40 : decode cX2_isList 40 = .ok (.iconst 0, 1) := by decide +kernel
theorem dX2_isList_41 : decode cX2_isList 41 = .ok (.ireturn, 1) := by decide +kernel
theorem dX2_isList_42 : decode cX2_isList 42 = .ok (.aload_n 0, 1) := by decide +kernel
theorem dX2_isList_43 : decode cX2_isList 43 = .ok (.invokevirtual 32, 3) := by decide +kernel
theorem dX2_isList_46 : decode cX2_isList 46 = .ok (.iconst 1, 1) := by decide +kernel
theorem dX2_isList_47 : decode cX2_isList 47 = .ok (.ireturn, 1) := by decide +kernel
theorem dX2_greatestPen_0 : decode cX2_greatestPen 0 = .ok (.iconst (-1), 1) := by decide +kernel
theorem dX2_greatestPen_1 : decode cX2_greatestPen 1 = .ok (.istore_n 1, 1) := by decide +kernel
theorem dX2_greatestPen_2 : decode cX2_greatestPen 2 = .ok (.iconst 0, 1) := by decide +kernel
theorem dX2_greatestPen_3 : decode cX2_greatestPen 3 = .ok (.istore_n 2, 1) := by decide +kernel
theorem dX2_greatestPen_4 : decode cX2_greatestPen 4 = .ok (.iload_n 2, 1) := by decide +kernel
theorem dX2_greatestPen_5 : decode cX2_greatestPen 5 = .ok (.bipush 12, 2) := by decide +kernel
theorem dX2_greatestPen_7 : decode cX2_greatestPen 7 = .ok (.if_icmp .ge 24, 3) := by decide +kernel
theorem dX2_greatestPen_10 : decode cX2_greatestPen 10 = .ok (.aload_n 0, 1) := by decide +kernel
theorem dX2_greatestPen_11 : decode cX2_greatestPen 11 = .ok (.getfield 15, 3) := by decide +kernel
theorem dX2_greatestPen_14 : decode cX2_greatestPen 14 = .ok (.iload_n 2, 1) := by decide +kernel
theorem dX2_greatestPen_15 : decode cX2_greatestPen 15 = .ok (.iaload, 1) := by decide +kernel
theorem dX2_greatestPen_16 : decode cX2_greatestPen 16 = .ok (.ifCond .le 7, 3) := by decide +kernel
theorem dX2_greatestPen_19 : decode cX2_greatestPen 19 = .ok (.iload_n 2, 1) := by decide +kernel
theorem dX2_greatestPen_20 : decode cX2_greatestPen 20 = .ok (.goto 4, 3) := by decide +kernel
theorem dX2_greatestPen_23 : decode cX2_greatestPen 23 = .ok (.iload_n 1, 1) := by decide +kernel
theorem dX2_greatestPen_24 : decode cX2_greatestPen 24 = .ok (.istore_n 1, 1) := by decide +kernel
theorem dX2_greatestPen_25 : decode cX2_greatestPen 25 = .ok (.iinc 2 1, 3) := by decide +kernel
theorem dX2_greatestPen_28 : decode cX2_greatestPen 28 = .ok (.goto (-24), 3) := by decide +kernel
theorem dX2_greatestPen_31 : decode cX2_greatestPen 31 = .ok (.iload_n 1, 1) := by decide +kernel
theorem dX2_greatestPen_32 : decode cX2_greatestPen 32 = .ok (.ireturn, 1) := by decide +kernel
theorem dX2_readToError_0 : decode cX2_readToError 0 = .ok (.aload_n 0, 1) := by decide +kernel
theorem dX2_readToError_1 : decode cX2_readToError 1 = .ok (.getfield 15, 3) := by decide +kernel
theorem dX2_readToError_4 : decode cX2_readToError 4 = .ok (.iconst 0, 1) := by decide +kernel
theorem dX2_readToError_5 : decode cX2_readToError 5 = .ok (.invokestatic 35, 3) := by decide +kernel
theorem dX2_readToError_8 : decode cX2_readToError 8 = .ok (.aload_n 0, 1) := by decide +kernel
theorem dX2_readToError_9 : decode cX2_readToError 9 = .ok (.iconst 0, 1) := by decide +kernel
theorem dX2_readToError_10 : decode cX2_readToError 10 = .ok (.putfield 26, 3) := by decide +kernel
theorem dX2_readToError_13 : decode cX2_readToError 13 = .ok (.aload_n 0, 1) := by decide +kernel
theorem dX2_readToError_14 : decode cX2_readToError 14 = .ok (.iconst 0, 1) := by decide +kernel
theorem dX2_readToError_15 : decode cX2_readToError 15 = .ok (.putfield 29, 3) := by decide +kernel
theorem dX2_readToError_18 : decode cX2_readToError 18 = .ok (.aload_n 0, 1) := by decide +kernel
theorem dX2_readToError_19 : decode cX2_readToError 19 = .ok (.iconst 1, 1) := by decide +kernel
theorem dX2_readToError_20 : decode cX2_readToError 20 = .ok (.putfield 41, 3) := by decide +kernel
theorem dX2_readToError_23 : decode cX2_readToError 23 = .ok (.aload_n 0, 1) := by decide +kernel
theorem dX2_readToError_24 : decode cX2_readToError 24 = .ok (.iconst 0, 1) := by decide +kernel
theorem dX2_readToError_25 : decode cX2_readToError 25 = .ok (.putfield 44, 3) := by decide +kernel
theorem dX2_readToError_28 : decode cX2_readToError 28 = .ok (.iconst 0, 1) := by decide +kernel
theorem dX2_readToError_29 : decode cX2_readToError 29 = .ok (.istore_n 1, 1) := by decide +kernel
theorem dX2_readToError_30 : decode cX2_readToError 30 = .ok (.iload_n 1, 1) := by decide +kernel
theorem dX2_readToError_31 : decode cX2_readToError 31 = .ok (.aload_n 0, 1) := by decide +kernel
theorem dX2_readToError_32 : decode cX2_readToError 32 = .ok (.getfield 22, 3) := by decide +kernel
theorem dX2_readToError_35 : decode cX2_readToError 35 = .ok (.if_icmp .ge 24, 3) := by decide +kernel
theorem dX2_readToError_38 : decode cX2_readToError 38 = .ok (.aload_n 0, 1) := by decide +kernel
theorem dX2_readToError_39 : decode cX2_readToError 39 = .ok (.aload_n 0, 1) := by decide +kernel
theorem dX2_readToError_40 : decode cX2_readToError 40 = .ok (.getfield 11, 3) := by decide +kernel
theorem dX2_readToError_43 : decode cX2_readToError 43 = .ok (.iload_n 1, 1) := by decide +kernel
theorem dX2_readToError_44 : decode cX2_readToError 44 = .ok (.iaload, 1) := by decide +kernel
theorem dX2_readToError_45 : decode cX2_readToError 45 = .ok (.invokevirtual 47, 3) := by decide +kernel
theorem dX2_readToError_48 : decode cX2_readToError 48 = .ok (.ifCond .ne 5, 3) := by decide +kernel
theorem dX2_readToError_51 : decode cX2_readToError 51 = .ok (.iload_n 1, 1) := by decide +kernel
theorem dX2_readToError_52 : decode cX2_readToError 52 = .ok (.ireturn, 1) := by decide +kernel
theorem dX2_readToError_53 : decode cX2_readToError 53 = .ok (.iinc 1 1, 3) := by decide +kernel
theorem dX2_readToError_56 : decode cX2_readToError 56 = .ok (.goto (-26), 3) := by decide +kernel
theorem dX2_readToError_59 : decode cX2_readToError 59 = .ok (.aload_n 0, 1) := by decide +kernel
theorem dX2_readToError_60 : decode cX2_readToError 60 = .ok (.getfield 22, 3) := by decide +kernel
theorem dX2_readToError_63 : decode cX2_readToError 63 = .ok (.ireturn, 1) := by decide +kernel
theorem dX2_takes_0 : decode cX2_takes 0 = .ok (.aload_n 0, 1) := by decide +kernel
theorem dX2_takes_1 : decode cX2_takes 1 = .ok (.getfield 26, 3) := by decide +kernel
theorem dX2_takes_4 : decode cX2_takes 4 = .ok (.tableswitch 72 0 3 #[32, 38, 44, 66], 32) := by decide +kernel
theorem dX2_takes_36 : decode cX2_takes 36 = .ok (.aload_n 0, 1) := by decide +kernel
theorem dX2_takes_37 : decode cX2_takes 37 = .ok (.iload_n 1, 1) := by decide +kernel
theorem dX2_takes_38 : decode cX2_takes 38 = .ok (.invokevirtual 51, 3) := by decide +kernel
theorem dX2_takes_41 : decode cX2_takes 41 = .ok (.ireturn, 1) := by decide +kernel
theorem dX2_takes_42 : decode cX2_takes 42 = .ok (.aload_n 0, 1) := by decide +kernel
theorem dX2_takes_43 : decode cX2_takes 43 = .ok (.iload_n 1, 1) := by decide +kernel
theorem dX2_takes_44 : decode cX2_takes 44 = .ok (.invokevirtual 54, 3) := by decide +kernel
theorem dX2_takes_47 : decode cX2_takes 47 = .ok (.ireturn, 1) := by decide +kernel
theorem dX2_takes_48 : decode cX2_takes 48 = .ok (.aload_n 0, 1) := by decide +kernel
theorem dX2_takes_49 : decode cX2_takes 49 = .ok (.iload_n 1, 1) := by decide +kernel
theorem dX2_takes_50 : decode cX2_takes 50 = .ok (.invokevirtual 57, 3) := by decide +kernel
theorem dX2_takes_53 : decode cX2_takes 53 = .ok (.ifCond .ne 11, 3) := by decide +kernel
theorem dX2_takes_56 : decode cX2_takes 56 = .ok (.aload_n 0, 1) := by decide +kernel
theorem dX2_takes_57 : decode cX2_takes 57 = .ok (.iload_n 1, 1) := by decide +kernel
theorem dX2_takes_58 : decode cX2_takes 58 = .ok (.invokevirtual 60, 3) := by decide +kernel
theorem dX2_takes_61 : decode cX2_takes 61 = .ok (.ifCond .eq 7, 3) := by decide +kernel
theorem dX2_takes_64 : decode cX2_takes 64 = .ok (.iconst 1, 1) := by decide +kernel
theorem dX2_takes_65 : decode cX2_takes 65 = .ok (.goto 4, 3) := by decide +kernel
theorem dX2_takes_68 : decode cX2_takes 68 = .ok (.iconst 0, 1) := by decide +kernel
theorem dX2_takes_69 : decode cX2_takes 69 = .ok (.ireturn, 1) := by decide +kernel
theorem dX2_takes_70 : decode cX2_takes 70 = .ok (.aload_n 0, 1) := by decide +kernel
theorem dX2_takes_71 : decode cX2_takes 71 = .ok (.iload_n 1, 1) := by decide +kernel
theorem dX2_takes_72 : decode cX2_takes 72 = .ok (.invokevirtual 63, 3) := by decide +kernel
theorem dX2_takes_75 : decode cX2_takes 75 = .ok (.ireturn, 1) := by decide +kernel
theorem dX2_takes_76 : decode cX2_takes 76 = .ok (.aload_n 0, 1) := by decide +kernel
theorem dX2_takes_77 : decode cX2_takes 77 = .ok (.iload_n 1, 1) := by decide +kernel
theorem dX2_takes_78 : decode cX2_takes 78 = .ok (.invokevirtual 60, 3) := by decide +kernel
theorem dX2_takes_81 : decode cX2_takes 81 = .ok (.ireturn, 1) := by decide +kernel
theorem dX2_takesDigit_0 : decode cX2_takesDigit 0 = .ok (.iload_n 1, 1) := by decide +kernel
theorem dX2_takesDigit_1 : decode cX2_takesDigit 1 = .ok (.bipush 49, 2) := by decide +kernel
theorem dX2_takesDigit_3 : decode cX2_takesDigit 3 = .ok (.if_icmp .ne 8, 3) := by decide +kernel
theorem dX2_takesDigit_6 : decode cX2_takesDigit 6 = .ok (.aload_n 0, 1) := by decide +kernel
theorem dX2_takesDigit_7 : decode cX2_takesDigit 7 = .ok (.invokevirtual 66, 3) := by decide +kernel
theorem dX2_takesDigit_10 : decode cX2_takesDigit 10 = .ok (.ireturn, 1) := by decide +kernel
theorem dX2_takesDigit_11 : decode cX2_takesDigit 11 = .ok (.iload_n 1, 1) := by decide +kernel
theorem dX2_takesDigit_12 : decode cX2_takesDigit 12 = .ok (.bipush 48, 2) := by decide +kernel
theorem dX2_takesDigit_14 : decode cX2_takesDigit 14 = .ok (.if_icmp .lt 24, 3) := by decide +kernel
theorem dX2_takesDigit_17 : decode cX2_takesDigit 17 = .ok (.iload_n 1, 1) := by decide +kernel
theorem dX2_takesDigit_18 : decode cX2_takesDigit 18 = .ok (.bipush 57, 2) := by decide +kernel
theorem dX2_takesDigit_20 : decode cX2_takesDigit 20 = .ok (.if_icmp .gt 18, 3) := by decide +kernel
theorem dX2_takesDigit_23 : decode cX2_takesDigit 23 = .ok (.aload_n 0, 1) := by decide +kernel
theorem dX2_takesDigit_24 : decode cX2_takesDigit 24 = .ok (.iload_n 1, 1) := by decide +kernel
theorem dX2_takesDigit_25 : decode cX2_takesDigit 25 = .ok (.bipush 48, 2) := by decide +kernel
theorem dX2_takesDigit_27 : decode cX2_takesDigit 27 = .ok (.isub, 1) := by decide +kernel
theorem dX2_takesDigit_28 : decode cX2_takesDigit 28 = .ok (.invokevirtual 70, 3) := by decide +kernel
theorem dX2_takesDigit_31 : decode cX2_takesDigit 31 = .ok (.ifCond .eq 7, 3) := by decide +kernel
theorem dX2_takesDigit_34 : decode cX2_takesDigit 34 = .ok (.iconst 1, 1) := by decide +kernel
theorem dX2_takesDigit_35 : decode cX2_takesDigit 35 = .ok (.goto 4, 3) := by decide +kernel
theorem dX2_takesDigit_38 : decode cX2_takesDigit 38 = .ok (.iconst 0, 1) := by decide +kernel
theorem dX2_takesDigit_39 : decode cX2_takesDigit 39 = .ok (.ireturn, 1) := by decide +kernel
theorem dX2_takesOne_0 : decode cX2_takesOne 0 = .ok (.aload_n 0, 1) := by decide +kernel
theorem dX2_takesOne_1 : decode cX2_takesOne 1 = .ok (.getfield 15, 3) := by decide +kernel
theorem dX2_takesOne_4 : decode cX2_takesOne 4 = .ok (.iconst 1, 1) := by decide +kernel
theorem dX2_takesOne_5 : decode cX2_takesOne 5 = .ok (.iaload, 1) := by decide +kernel
theorem dX2_takesOne_6 : decode cX2_takesOne 6 = .ok (.ifCond .eq 25, 3) := by decide +kernel
theorem dX2_takesOne_9 : decode cX2_takesOne 9 = .ok (.aload_n 0, 1) := by decide +kernel
theorem dX2_takesOne_10 : decode cX2_takesOne 10 = .ok (.getfield 15, 3) := by decide +kernel
theorem dX2_takesOne_13 : decode cX2_takesOne 13 = .ok (.bipush 10, 2) := by decide +kernel
theorem dX2_takesOne_15 : decode cX2_takesOne 15 = .ok (.iaload, 1) := by decide +kernel
theorem dX2_takesOne_16 : decode cX2_takesOne 16 = .ok (.ifCond .eq 15, 3) := by decide +kernel
theorem dX2_takesOne_19 : decode cX2_takesOne 19 = .ok (.aload_n 0, 1) := by decide +kernel
theorem dX2_takesOne_20 : decode cX2_takesOne 20 = .ok (.getfield 15, 3) := by decide +kernel
theorem dX2_takesOne_23 : decode cX2_takesOne 23 = .ok (.bipush 11, 2) := by decide +kernel
theorem dX2_takesOne_25 : decode cX2_takesOne 25 = .ok (.iaload, 1) := by decide +kernel
theorem dX2_takesOne_26 : decode cX2_takesOne 26 = .ok (.ifCond .eq 5, 3) := by decide +kernel
theorem dX2_takesOne_29 : decode cX2_takesOne 29 = .ok (.iconst 0, 1) := by decide +kernel
theorem dX2_takesOne_30 : decode cX2_takesOne 30 = .ok (.ireturn, 1) := by decide +kernel
theorem dX2_takesOne_31 : decode cX2_takesOne 31 = .ok (.aload_n 0, 1) := by decide +kernel
theorem dX2_takesOne_32 : decode cX2_takesOne 32 = .ok (.iconst 1, 1) := by decide +kernel
theorem dX2_takesOne_33 : decode cX2_takesOne 33 = .ok (.putfield 29, 3) := by decide +kernel
theorem dX2_takesOne_36 : decode cX2_takesOne 36 = .ok (.aload_n 0, 1) := by decide +kernel
theorem dX2_takesOne_37 : decode cX2_takesOne 37 = .ok (.iconst 1, 1) := by decide +kernel
theorem dX2_takesOne_38 : decode cX2_takesOne 38 = .ok (.putfield 26, 3) := by decide +kernel
theorem dX2_takesOne_41 : decode cX2_takesOne 41 = .ok (.iconst 1, 1) := by decide +kernel
theorem dX2_takesOne_42 : decode cX2_takesOne 42 = .ok (.ireturn, 1) := by decide +kernel
theorem dX2_takesAfterOne_0 : decode cX2_takesAfterOne 0 = .ok (.iload_n 1, 1) := by decide +kernel
theorem dX2_takesAfterOne_1 : decode cX2_takesAfterOne 1 = .ok (.bipush 48, 2) := by decide +kernel
theorem dX2_takesAfterOne_3 : decode cX2_takesAfterOne 3 = .ok (.if_icmp .eq 9, 3) := by decide +kernel
theorem dX2_takesAfterOne_6 : decode cX2_takesAfterOne 6 = .ok (.iload_n 1, 1) := by decide +kernel
theorem dX2_takesAfterOne_7 : decode cX2_takesAfterOne 7 = .ok (.bipush 49, 2) := by decide +kernel
theorem dX2_takesAfterOne_9 : decode cX2_takesAfterOne 9 = .ok (.if_icmp .ne 15, 3) := by decide +kernel
theorem dX2_takesAfterOne_12 : decode cX2_takesAfterOne 12 = .ok (.aload_n 0, 1) := by decide +kernel
theorem dX2_takesAfterOne_13 : decode cX2_takesAfterOne 13 = .ok (.bipush 10, 2) := by decide +kernel
theorem dX2_takesAfterOne_15 : decode cX2_takesAfterOne 15 = .ok (.iload_n 1, 1) := by decide +kernel
theorem dX2_takesAfterOne_16 : decode cX2_takesAfterOne 16 = .ok (.iadd, 1) := by decide +kernel
theorem dX2_takesAfterOne_17 : decode cX2_takesAfterOne 17 = .ok (.bipush 48, 2) := by decide +kernel
theorem dX2_takesAfterOne_19 : decode cX2_takesAfterOne 19 = .ok (.isub, 1) := by decide +kernel
theorem dX2_takesAfterOne_20 : decode cX2_takesAfterOne 20 = .ok (.invokevirtual 70, 3) := by decide +kernel
theorem dX2_takesAfterOne_23 : decode cX2_takesAfterOne 23 = .ok (.ireturn, 1) := by decide +kernel
theorem dX2_takesAfterOne_24 : decode cX2_takesAfterOne 24 = .ok (.aload_n 0, 1) := by decide +kernel
theorem dX2_takesAfterOne_25 : decode cX2_takesAfterOne 25 = .ok (.getfield 15, 3) := by decide +kernel
theorem dX2_takesAfterOne_28 : decode cX2_takesAfterOne 28 = .ok (.iconst 1, 1) := by decide +kernel
theorem dX2_takesAfterOne_29 : decode cX2_takesAfterOne 29 = .ok (.iaload, 1) := by decide +kernel
theorem dX2_takesAfterOne_30 : decode cX2_takesAfterOne 30 = .ok (.ifCond .ne 23, 3) := by decide +kernel
theorem dX2_takesAfterOne_33 : decode cX2_takesAfterOne 33 = .ok (.aload_n 0, 1) := by decide +kernel
theorem dX2_takesAfterOne_34 : decode cX2_takesAfterOne 34 = .ok (.iload_n 1, 1) := by decide +kernel
theorem dX2_takesAfterOne_35 : decode cX2_takesAfterOne 35 = .ok (.invokevirtual 57, 3) := by decide +kernel
theorem dX2_takesAfterOne_38 : decode cX2_takesAfterOne 38 = .ok (.ifCond .ne 11, 3) := by decide +kernel
theorem dX2_takesAfterOne_41 : decode cX2_takesAfterOne 41 = .ok (.aload_n 0, 1) := by decide +kernel
theorem dX2_takesAfterOne_42 : decode cX2_takesAfterOne 42 = .ok (.iload_n 1, 1) := by decide +kernel
theorem dX2_takesAfterOne_43 : decode cX2_takesAfterOne 43 = .ok (.invokevirtual 60, 3) := by decide +kernel
theorem dX2_takesAfterOne_46 : decode cX2_takesAfterOne 46 = .ok (.ifCond .eq 7, 3) := by decide +kernel
theorem dX2_takesAfterOne_49 : decode cX2_takesAfterOne 49 = .ok (.iconst 1, 1) := by decide +kernel
theorem dX2_takesAfterOne_50 : decode cX2_takesAfterOne 50 = .ok (.goto 4, 3) := by decide +kernel
theorem dX2_takesAfterOne_53 : decode cX2_takesAfterOne 53 = .ok (.iconst 0, 1) := by decide +kernel
theorem dX2_takesAfterOne_54 : decode cX2_takesAfterOne 54 = .ok (.ireturn, 1) := by decide +kernel
theorem dX2_takesPen_0 : decode cX2_takesPen 0 = .ok (.iload_n 1, 1) := by decide +kernel
theorem dX2_takesPen_1 : decode cX2_takesPen 1 = .ok (.ifCond .lt 18, 3) := by decide +kernel
theorem dX2_takesPen_4 : decode cX2_takesPen 4 = .ok (.iload_n 1, 1) := by decide +kernel
theorem dX2_takesPen_5 : decode cX2_takesPen 5 = .ok (.bipush 12, 2) := by decide +kernel
theorem dX2_takesPen_7 : decode cX2_takesPen 7 = .ok (.if_icmp .ge 12, 3) := by decide +kernel
theorem dX2_takesPen_10 : decode cX2_takesPen 10 = .ok (.aload_n 0, 1) := by decide +kernel
theorem dX2_takesPen_11 : decode cX2_takesPen 11 = .ok (.getfield 15, 3) := by decide +kernel
theorem dX2_takesPen_14 : decode cX2_takesPen 14 = .ok (.iload_n 1, 1) := by decide +kernel
theorem dX2_takesPen_15 : decode cX2_takesPen 15 = .ok (.iaload, 1) := by decide +kernel
theorem dX2_takesPen_16 : decode cX2_takesPen 16 = .ok (.ifCond .eq 5, 3) := by decide +kernel
theorem dX2_takesPen_19 : decode cX2_takesPen 19 = .ok (.iconst 0, 1) := by decide +kernel
theorem dX2_takesPen_20 : decode cX2_takesPen 20 = .ok (.ireturn, 1) := by decide +kernel
theorem dX2_takesPen_21 : decode cX2_takesPen 21 = .ok (.aload_n 0, 1) := by decide +kernel
theorem dX2_takesPen_22 : decode cX2_takesPen 22 = .ok (.iload_n 1, 1) := by decide +kernel
theorem dX2_takesPen_23 : decode cX2_takesPen 23 = .ok (.putfield 29, 3) := by decide +kernel
theorem dX2_takesPen_26 : decode cX2_takesPen 26 = .ok (.aload_n 0, 1) := by decide +kernel
theorem dX2_takesPen_27 : decode cX2_takesPen 27 = .ok (.iconst 2, 1) := by decide +kernel
theorem dX2_takesPen_28 : decode cX2_takesPen 28 = .ok (.putfield 26, 3) := by decide +kernel
theorem dX2_takesPen_31 : decode cX2_takesPen 31 = .ok (.iconst 1, 1) := by decide +kernel
theorem dX2_takesPen_32 : decode cX2_takesPen 32 = .ok (.ireturn, 1) := by decide +kernel
theorem dX2_takesStar_0 : decode cX2_takesStar 0 = .ok (.iload_n 1, 1) := by decide +kernel
theorem dX2_takesStar_1 : decode cX2_takesStar 1 = .ok (.bipush 42, 2) := by decide +kernel
theorem dX2_takesStar_3 : decode cX2_takesStar 3 = .ok (.if_icmp .eq 5, 3) := by decide +kernel
theorem dX2_takesStar_6 : decode cX2_takesStar 6 = .ok (.iconst 0, 1) := by decide +kernel
theorem dX2_takesStar_7 : decode cX2_takesStar 7 = .ok (.ireturn, 1) := by decide +kernel
theorem dX2_takesStar_8 : decode cX2_takesStar 8 = .ok (.aload_n 0, 1) := by decide +kernel
theorem dX2_takesStar_9 : decode cX2_takesStar 9 = .ok (.iconst 3, 1) := by decide +kernel
theorem dX2_takesStar_10 : decode cX2_takesStar 10 = .ok (.putfield 26, 3) := by decide +kernel
theorem dX2_takesStar_13 : decode cX2_takesStar 13 = .ok (.iconst 1, 1) := by decide +kernel
theorem dX2_takesStar_14 : decode cX2_takesStar 14 = .ok (.ireturn, 1) := by decide +kernel
theorem dX2_takesFactor_0 : decode cX2_takesFactor 0 = .ok (.iload_n 1, 1) := by decide +kernel
theorem dX2_takesFactor_1 : decode cX2_takesFactor 1 = .ok (.bipush 50, 2) := by decide +kernel
theorem dX2_takesFactor_3 : decode cX2_takesFactor 3 = .ok (.if_icmp .lt 9, 3) := by decide +kernel
theorem dX2_takesFactor_6 : decode cX2_takesFactor 6 = .ok (.iload_n 1, 1) := by decide +kernel
theorem dX2_takesFactor_7 : decode cX2_takesFactor 7 = .ok (.bipush 57, 2) := by decide +kernel
theorem dX2_takesFactor_9 : decode cX2_takesFactor 9 = .ok (.if_icmp .le 5, 3) := by decide +kernel
theorem dX2_takesFactor_12 : decode cX2_takesFactor 12 = .ok (.iconst 0, 1) := by decide +kernel
theorem dX2_takesFactor_13 : decode cX2_takesFactor 13 = .ok (.ireturn, 1) := by decide +kernel
theorem dX2_takesFactor_14 : decode cX2_takesFactor 14 = .ok (.aload_n 0, 1) := by decide +kernel
theorem dX2_takesFactor_15 : decode cX2_takesFactor 15 = .ok (.iload_n 1, 1) := by decide +kernel
theorem dX2_takesFactor_16 : decode cX2_takesFactor 16 = .ok (.bipush 48, 2) := by decide +kernel
theorem dX2_takesFactor_18 : decode cX2_takesFactor 18 = .ok (.isub, 1) := by decide +kernel
theorem dX2_takesFactor_19 : decode cX2_takesFactor 19 = .ok (.putfield 41, 3) := by decide +kernel
theorem dX2_takesFactor_22 : decode cX2_takesFactor 22 = .ok (.aload_n 0, 1) := by decide +kernel
theorem dX2_takesFactor_23 : decode cX2_takesFactor 23 = .ok (.iconst 4, 1) := by decide +kernel
theorem dX2_takesFactor_24 : decode cX2_takesFactor 24 = .ok (.putfield 26, 3) := by decide +kernel
theorem dX2_takesFactor_27 : decode cX2_takesFactor 27 = .ok (.iconst 1, 1) := by decide +kernel
theorem dX2_takesFactor_28 : decode cX2_takesFactor 28 = .ok (.ireturn, 1) := by decide +kernel
theorem dX2_takesComma_0 : decode cX2_takesComma 0 = .ok (.iload_n 1, 1) := by decide +kernel
theorem dX2_takesComma_1 : decode cX2_takesComma 1 = .ok (.bipush 44, 2) := by decide +kernel
theorem dX2_takesComma_3 : decode cX2_takesComma 3 = .ok (.if_icmp .ne 11, 3) := by decide +kernel
theorem dX2_takesComma_6 : decode cX2_takesComma 6 = .ok (.aload_n 0, 1) := by decide +kernel
theorem dX2_takesComma_7 : decode cX2_takesComma 7 = .ok (.getfield 44, 3) := by decide +kernel
theorem dX2_takesComma_10 : decode cX2_takesComma 10 = .ok (.iconst 3, 1) := by decide +kernel
theorem dX2_takesComma_11 : decode cX2_takesComma 11 = .ok (.if_icmp .lt 5, 3) := by decide +kernel
theorem dX2_takesComma_14 : decode cX2_takesComma 14 = .ok (.iconst 0, 1) := by decide +kernel
theorem dX2_takesComma_15 : decode cX2_takesComma 15 = .ok (.ireturn, 1) := by decide +kernel
theorem dX2_takesComma_16 : decode cX2_takesComma 16 = .ok (.aload_n 0, 1) := by decide +kernel
theorem dX2_takesComma_17 : decode cX2_takesComma 17 = .ok (.invokevirtual 32, 3) := by decide +kernel
theorem dX2_takesComma_20 : decode cX2_takesComma 20 = .ok (.aload_n 0, 1) := by decide +kernel
theorem dX2_takesComma_21 : decode cX2_takesComma 21 = .ok (.iconst 0, 1) := by decide +kernel
theorem dX2_takesComma_22 : decode cX2_takesComma 22 = .ok (.putfield 26, 3) := by decide +kernel
theorem dX2_takesComma_25 : decode cX2_takesComma 25 = .ok (.iconst 1, 1) := by decide +kernel
theorem dX2_takesComma_26 : decode cX2_takesComma 26 = .ok (.ireturn, 1) := by decide +kernel
theorem dX2_endItem_0 : decode cX2_endItem 0 = .ok (.aload_n 0, 1) := by decide +kernel
theorem dX2_endItem_1 : decode cX2_endItem 1 = .ok (.getfield 15, 3) := by decide +kernel
theorem dX2_endItem_4 : decode cX2_endItem 4 = .ok (.aload_n 0, 1) := by decide +kernel
theorem dX2_endItem_5 : decode cX2_endItem 5 = .ok (.getfield 29, 3) := by decide +kernel
theorem dX2_endItem_8 : decode cX2_endItem 8 = .ok (.aload_n 0, 1) := by decide +kernel
theorem dX2_endItem_9 : decode cX2_endItem 9 = .ok (.getfield 41, 3) := by decide +kernel
theorem dX2_endItem_12 : decode cX2_endItem 12 = .ok (.iastore, 1) := by decide +kernel
theorem dX2_endItem_13 : decode cX2_endItem 13 = .ok (.aload_n 0, 1) := by decide +kernel
theorem dX2_endItem_14 : decode cX2_endItem 14 = .ok (.iconst 1, 1) := by decide +kernel
theorem dX2_endItem_15 : decode cX2_endItem 15 = .ok (.putfield 41, 3) := by decide +kernel
theorem dX2_endItem_18 : decode cX2_endItem 18 = .ok (.aload_n 0, 1) := by decide +kernel
theorem dX2_endItem_19 : decode cX2_endItem 19 = .ok (.dup, 1) := by decide +kernel
theorem dX2_endItem_20 : decode cX2_endItem 20 = .ok (.getfield 44, 3) := by decide +kernel
theorem dX2_endItem_23 : decode cX2_endItem 23 = .ok (.iconst 1, 1) := by decide +kernel
theorem dX2_endItem_24 : decode cX2_endItem 24 = .ok (.iadd, 1) := by decide +kernel
theorem dX2_endItem_25 : decode cX2_endItem 25 = .ok (.putfield 44, 3) := by decide +kernel
theorem dX2_endItem_28 : decode cX2_endItem 28 = .ok (.return_, 1) := by decide +kernel
end
section
theorem dX3_init_0 : decode cX3_init 0 = .ok (.aload_n 0, 1) := by decide +kernel
theorem dX3_init_1 : decode cX3_init 1 = .ok (.invokespecial 3, 3) := by decide +kernel
theorem dX3_init_4 : decode cX3_init 4 = .ok (.aload_n 0, 1) := by decide +kernel
theorem dX3_init_5 : decode cX3_init 5 = .ok (.bipush 12, 2) := by decide +kernel
theorem dX3_init_7 : decode cX3_init 7 = .ok (.newarray .int, 2) := by decide +kernel
theorem dX3_init_9 : decode cX3_init 9 = .ok (.putfield 9, 3) := by decide +kernel
theorem dX3_init_12 : decode cX3_init 12 = .ok (.aload_n 0, 1) := by decide +kernel
theorem dX3_init_13 : decode cX3_init 13 = .ok (.bipush 12, 2) := by decide +kernel
theorem dX3_init_15 : decode cX3_init 15 = .ok (.newarray .int, 2) := by decide +kernel
theorem dX3_init_17 : decode cX3_init 17 = .ok (.putfield 15, 3) := by decide +kernel
theorem dX3_init_20 : decode cX3_init 20 = .ok (.aload_n 0, 1) := by decide +kernel
theorem dX3_init_21 : decode cX3_init 21 = .ok (.bipush 12, 2) := by decide +kernel
theorem dX3_init_23 : decode cX3_init 23 = .ok (.newarray .int, 2) := by decide +kernel
theorem dX3_init_25 : decode cX3_init 25 = .ok (.putfield 18, 3) := by decide +kernel
theorem dX3_init_28 : decode cX3_init 28 = .ok (.aload_n 0, 1) := by decide +kernel
theorem dX3_init_29 : decode cX3_init 29 = .ok (.bipush 12, 2) := by decide +kernel
theorem dX3_init_31 : decode cX3_init 31 = .ok (.newarray .int, 2) := by decide +kernel
theorem dX3_init_33 : decode cX3_init 33 = .ok (.putfield 21, 3) := by decide +kernel
theorem dX3_init_36 : decode cX3_init 36 = .ok (.aload_n 0, 1) := by decide +kernel
theorem dX3_init_37 : decode cX3_init 37 = .ok (.bipush 12, 2) := by decide +kernel
theorem dX3_init_39 : decode cX3_init 39 = .ok (.newarray .int, 2) := by decide +kernel
theorem dX3_init_41 : decode cX3_init 41 = .ok (.putfield 24, 3) := by decide +kernel
theorem dX3_init_44 : decode cX3_init 44 = .ok (.aload_n 0, 1) := by decide +kernel
theorem dX3_init_45 : decode cX3_init 45 = .ok (.bipush 12, 2) := by decide +kernel
theorem dX3_init_47 : decode cX3_init 47 = .ok (.newarray .int, 2) := by decide +kernel
theorem dX3_init_49 : decode cX3_init 49 = .ok (.putfield 27, 3) := by decide +kernel
theorem dX3_init_52 : decode cX3_init 52 = .ok (.return_, 1) := by decide +kernel
theorem dX3_copyFrom_0 : decode cX3_copyFrom 0 = .ok (.aload_n 0, 1) := by decide +kernel
theorem dX3_copyFrom_1 : decode cX3_copyFrom 1 = .ok (.aload_n 1, 1) := by decide +kernel
theorem dX3_copyFrom_2 : decode cX3_copyFrom 2 = .ok (.getfield 30, 3) := by decide +kernel
theorem dX3_copyFrom_5 : decode cX3_copyFrom 5 = .ok (.putfield 30, 3) := by decide +kernel
theorem dX3_copyFrom_8 : decode cX3_copyFrom 8 = .ok (.aload_n 1, 1) := by decide +kernel
theorem dX3_copyFrom_9 : decode cX3_copyFrom 9 = .ok (.getfield 9, 3) := by decide +kernel
theorem dX3_copyFrom_12 : decode cX3_copyFrom 12 = .ok (.aload_n 0, 1) := by decide +kernel
theorem dX3_copyFrom_13 : decode cX3_copyFrom 13 = .ok (.getfield 9, 3) := by decide +kernel
theorem dX3_copyFrom_16 : decode cX3_copyFrom 16 = .ok (.invokestatic 34, 3) := by decide +kernel
theorem dX3_copyFrom_19 : decode cX3_copyFrom 19 = .ok (.aload_n 1, 1) := by decide +kernel
theorem dX3_copyFrom_20 : decode cX3_copyFrom 20 = .ok (.getfield 15, 3) := by decide +kernel
theorem dX3_copyFrom_23 : decode cX3_copyFrom 23 = .ok (.aload_n 0, 1) := by decide +kernel
theorem dX3_copyFrom_24 : decode cX3_copyFrom 24 = .ok (.getfield 15, 3) := by decide +kernel
theorem dX3_copyFrom_27 : decode cX3_copyFrom 27 = .ok (.invokestatic 34, 3) := by decide +kernel
theorem dX3_copyFrom_30 : decode cX3_copyFrom 30 = .ok (.aload_n 1, 1) := by decide +kernel
theorem dX3_copyFrom_31 : decode cX3_copyFrom 31 = .ok (.getfield 18, 3) := by decide +kernel
theorem dX3_copyFrom_34 : decode cX3_copyFrom 34 = .ok (.aload_n 0, 1) := by decide +kernel
theorem dX3_copyFrom_35 : decode cX3_copyFrom 35 = .ok (.getfield 18, 3) := by decide +kernel
theorem dX3_copyFrom_38 : decode cX3_copyFrom 38 = .ok (.invokestatic 34, 3) := by decide +kernel
theorem dX3_copyFrom_41 : decode cX3_copyFrom 41 = .ok (.aload_n 1, 1) := by decide +kernel
theorem dX3_copyFrom_42 : decode cX3_copyFrom 42 = .ok (.getfield 21, 3) := by decide +kernel
theorem dX3_copyFrom_45 : decode cX3_copyFrom 45 = .ok (.aload_n 0, 1) := by decide +kernel
theorem dX3_copyFrom_46 : decode cX3_copyFrom 46 = .ok (.getfield 21, 3) := by decide +kernel
theorem dX3_copyFrom_49 : decode cX3_copyFrom 49 = .ok (.invokestatic 34, 3) := by decide +kernel
theorem dX3_copyFrom_52 : decode cX3_copyFrom 52 = .ok (.aload_n 1, 1) := by decide +kernel
theorem dX3_copyFrom_53 : decode cX3_copyFrom 53 = .ok (.getfield 24, 3) := by decide +kernel
theorem dX3_copyFrom_56 : decode cX3_copyFrom 56 = .ok (.aload_n 0, 1) := by decide +kernel
theorem dX3_copyFrom_57 : decode cX3_copyFrom 57 = .ok (.getfield 24, 3) := by decide +kernel
theorem dX3_copyFrom_60 : decode cX3_copyFrom 60 = .ok (.invokestatic 34, 3) := by decide +kernel
theorem dX3_copyFrom_63 : decode cX3_copyFrom 63 = .ok (.aload_n 1, 1) := by decide +kernel
theorem dX3_copyFrom_64 : decode cX3_copyFrom 64 = .ok (.getfield 27, 3) := by decide +kernel
theorem dX3_copyFrom_67 : decode cX3_copyFrom 67 = .ok (.aload_n 0, 1) := by decide +kernel
theorem dX3_copyFrom_68 : decode cX3_copyFrom 68 = .ok (.getfield 27, 3) := by decide +kernel
theorem dX3_copyFrom_71 : decode cX3_copyFrom 71 = .ok (.invokestatic 34, 3) := by decide +kernel
theorem dX3_copyFrom_74 : decode cX3_copyFrom 74 = .ok (.return_, 1) := by decide +kernel
theorem dX3_passByline_0 : decode cX3_passByline 0 = .ok (.aload_n 0, 1) := by decide +kernel
theorem dX3_passByline_1 : decode cX3_passByline 1 = .ok (.getfield 9, 3) := by decide +kernel
theorem dX3_passByline_4 : decode cX3_passByline 4 = .ok (.iload_n 2, 1) := by decide +kernel
theorem dX3_passByline_5 : decode cX3_passByline 5 = .ok (.dup2, 1) := by decide +kernel
theorem dX3_passByline_6 : decode cX3_passByline 6 = .ok (.iaload, 1) := by decide +kernel
theorem dX3_passByline_7 : decode cX3_passByline 7 = .ok (.iload_n 3, 1) := by decide +kernel
theorem dX3_passByline_8 : decode cX3_passByline 8 = .ok (.isub, 1) := by decide +kernel
theorem dX3_passByline_9 : decode cX3_passByline 9 = .ok (.iastore, 1) := by decide +kernel
theorem dX3_passByline_10 : decode cX3_passByline 10 = .ok (.aload_n 0, 1) := by decide +kernel
theorem dX3_passByline_11 : decode cX3_passByline 11 = .ok (.getfield 9, 3) := by decide +kernel
theorem dX3_passByline_14 : decode cX3_passByline 14 = .ok (.aload_n 0, 1) := by decide +kernel
theorem dX3_passByline_15 : decode cX3_passByline 15 = .ok (.getfield 21, 3) := by decide +kernel
theorem dX3_passByline_18 : decode cX3_passByline 18 = .ok (.iload_n 1, 1) := by decide +kernel
theorem dX3_passByline_19 : decode cX3_passByline 19 = .ok (.iaload, 1) := by decide +kernel
theorem dX3_passByline_20 : decode cX3_passByline 20 = .ok (.dup2, 1) := by decide +kernel
theorem dX3_passByline_21 : decode cX3_passByline 21 = .ok (.iaload, 1) := by decide +kernel
theorem dX3_passByline_22 : decode cX3_passByline 22 = .ok (.iload_n 3, 1) := by decide +kernel
theorem dX3_passByline_23 : decode cX3_passByline 23 = .ok (.iadd, 1) := by decide +kernel
theorem dX3_passByline_24 : decode cX3_passByline 24 = .ok (.iastore, 1) := by decide +kernel
theorem dX3_passByline_25 : decode cX3_passByline 25 = .ok (.aload_n 0, 1) := by decide +kernel
theorem dX3_passByline_26 : decode cX3_passByline 26 = .ok (.getfield 21, 3) := by decide +kernel
theorem dX3_passByline_29 : decode cX3_passByline 29 = .ok (.iload_n 1, 1) := by decide +kernel
theorem dX3_passByline_30 : decode cX3_passByline 30 = .ok (.iload_n 2, 1) := by decide +kernel
theorem dX3_passByline_31 : decode cX3_passByline 31 = .ok (.iastore, 1) := by decide +kernel
theorem dX3_passByline_32 : decode cX3_passByline 32 = .ok (.aload_n 0, 1) := by decide +kernel
theorem dX3_passByline_33 : decode cX3_passByline 33 = .ok (.getfield 24, 3) := by decide +kernel
theorem dX3_passByline_36 : decode cX3_passByline 36 = .ok (.iload_n 1, 1) := by decide +kernel
theorem dX3_passByline_37 : decode cX3_passByline 37 = .ok (.iload_n 3, 1) := by decide +kernel
theorem dX3_passByline_38 : decode cX3_passByline 38 = .ok (.iastore, 1) := by decide +kernel
theorem dX3_passByline_39 : decode cX3_passByline 39 = .ok (.return_, 1) := by decide +kernel
theorem dX3_earn_0 : decode cX3_earn 0 = .ok (.iload_n 2, 1) := by decide +kernel
theorem dX3_earn_1 : decode cX3_earn 1 = .ok (.aload_n 0, 1) := by decide +kernel
theorem dX3_earn_2 : decode cX3_earn 2 = .ok (.getfield 15, 3) := by decide +kernel
theorem dX3_earn_5 : decode cX3_earn 5 = .ok (.iload_n 1, 1) := by decide +kernel
theorem dX3_earn_6 : decode cX3_earn 6 = .ok (.iaload, 1) := by decide +kernel
theorem dX3_earn_7 : decode cX3_earn 7 = .ok (.invokestatic 38, 3) := by decide +kernel
theorem dX3_earn_10 : decode cX3_earn 10 = .ok (.istore_n 3, 1) := by decide +kernel
theorem dX3_earn_11 : decode cX3_earn 11 = .ok (.aload_n 0, 1) := by decide +kernel
theorem dX3_earn_12 : decode cX3_earn 12 = .ok (.getfield 18, 3) := by decide +kernel
theorem dX3_earn_15 : decode cX3_earn 15 = .ok (.iload_n 1, 1) := by decide +kernel
theorem dX3_earn_16 : decode cX3_earn 16 = .ok (.dup2, 1) := by decide +kernel
theorem dX3_earn_17 : decode cX3_earn 17 = .ok (.iaload, 1) := by decide +kernel
theorem dX3_earn_18 : decode cX3_earn 18 = .ok (.iload_n 2, 1) := by decide +kernel
theorem dX3_earn_19 : decode cX3_earn 19 = .ok (.iadd, 1) := by decide +kernel
theorem dX3_earn_20 : decode cX3_earn 20 = .ok (.iastore, 1) := by decide +kernel
theorem dX3_earn_21 : decode cX3_earn 21 = .ok (.aload_n 0, 1) := by decide +kernel
theorem dX3_earn_22 : decode cX3_earn 22 = .ok (.getfield 15, 3) := by decide +kernel
theorem dX3_earn_25 : decode cX3_earn 25 = .ok (.iload_n 1, 1) := by decide +kernel
theorem dX3_earn_26 : decode cX3_earn 26 = .ok (.dup2, 1) := by decide +kernel
theorem dX3_earn_27 : decode cX3_earn 27 = .ok (.iaload, 1) := by decide +kernel
theorem dX3_earn_28 : decode cX3_earn 28 = .ok (.iload_n 3, 1) := by decide +kernel
theorem dX3_earn_29 : decode cX3_earn 29 = .ok (.isub, 1) := by decide +kernel
theorem dX3_earn_30 : decode cX3_earn 30 = .ok (.iastore, 1) := by decide +kernel
theorem dX3_earn_31 : decode cX3_earn 31 = .ok (.aload_n 0, 1) := by decide +kernel
theorem dX3_earn_32 : decode cX3_earn 32 = .ok (.getfield 9, 3) := by decide +kernel
theorem dX3_earn_35 : decode cX3_earn 35 = .ok (.iload_n 1, 1) := by decide +kernel
theorem dX3_earn_36 : decode cX3_earn 36 = .ok (.dup2, 1) := by decide +kernel
theorem dX3_earn_37 : decode cX3_earn 37 = .ok (.iaload, 1) := by decide +kernel
theorem dX3_earn_38 : decode cX3_earn 38 = .ok (.iload_n 2, 1) := by decide +kernel
theorem dX3_earn_39 : decode cX3_earn 39 = .ok (.iload_n 3, 1) := by decide +kernel
theorem dX3_earn_40 : decode cX3_earn 40 = .ok (.isub, 1) := by decide +kernel
theorem dX3_earn_41 : decode cX3_earn 41 = .ok (.iadd, 1) := by decide +kernel
theorem dX3_earn_42 : decode cX3_earn 42 = .ok (.iastore, 1) := by decide +kernel
theorem dX3_earn_43 : decode cX3_earn 43 = .ok (.iload_n 3, 1) := by decide +kernel
theorem dX3_earn_44 : decode cX3_earn 44 = .ok (.ireturn, 1) := by decide +kernel
theorem dX3_bylinesOf_0 : decode cX3_bylinesOf 0 = .ok (.iconst 0, 1) := by decide +kernel
theorem dX3_bylinesOf_1 : decode cX3_bylinesOf 1 = .ok (.istore_n 2, 1) := by decide +kernel
theorem dX3_bylinesOf_2 : decode cX3_bylinesOf 2 = .ok (.iconst 0, 1) := by decide +kernel
theorem dX3_bylinesOf_3 : decode cX3_bylinesOf 3 = .ok (.istore_n 3, 1) := by decide +kernel
theorem dX3_bylinesOf_4 : decode cX3_bylinesOf 4 = .ok (.iload_n 3, 1) := by decide +kernel
theorem dX3_bylinesOf_5 : decode cX3_bylinesOf 5 = .ok (.aload_n 0, 1) := by decide +kernel
theorem dX3_bylinesOf_6 : decode cX3_bylinesOf 6 = .ok (.getfield 30, 3) := by decide +kernel
theorem dX3_bylinesOf_9 : decode cX3_bylinesOf 9 = .ok (.if_icmp .ge 27, 3) := by decide +kernel
theorem dX3_bylinesOf_12 : decode cX3_bylinesOf 12 = .ok (.iload_n 2, 1) := by decide +kernel
theorem dX3_bylinesOf_13 : decode cX3_bylinesOf 13 = .ok (.aload_n 0, 1) := by decide +kernel
theorem dX3_bylinesOf_14 : decode cX3_bylinesOf 14 = .ok (.getfield 21, 3) := by decide +kernel
theorem dX3_bylinesOf_17 : decode cX3_bylinesOf 17 = .ok (.iload_n 3, 1) := by decide +kernel
theorem dX3_bylinesOf_18 : decode cX3_bylinesOf 18 = .ok (.iaload, 1) := by decide +kernel
theorem dX3_bylinesOf_19 : decode cX3_bylinesOf 19 = .ok (.iload_n 1, 1) := by decide +kernel
theorem dX3_bylinesOf_20 : decode cX3_bylinesOf 20 = .ok (.if_icmp .ne 7, 3) := by decide +kernel
theorem dX3_bylinesOf_23 : decode cX3_bylinesOf 23 = .ok (.iconst 1, 1) := by decide +kernel
theorem dX3_bylinesOf_24 : decode cX3_bylinesOf 24 = .ok (.goto 4, 3) := by decide +kernel
theorem dX3_bylinesOf_27 : decode cX3_bylinesOf 27 = .ok (.iconst 0, 1) := by decide +kernel
theorem dX3_bylinesOf_28 : decode cX3_bylinesOf 28 = .ok (.iadd, 1) := by decide +kernel
theorem dX3_bylinesOf_29 : decode cX3_bylinesOf 29 = .ok (.istore_n 2, 1) := by decide +kernel
theorem dX3_bylinesOf_30 : decode cX3_bylinesOf 30 = .ok (.iinc 3 1, 3) := by decide +kernel
theorem dX3_bylinesOf_33 : decode cX3_bylinesOf 33 = .ok (.goto (-29), 3) := by decide +kernel
theorem dX3_bylinesOf_36 : decode cX3_bylinesOf 36 = .ok (.iload_n 2, 1) := by decide +kernel
theorem dX3_bylinesOf_37 : decode cX3_bylinesOf 37 = .ok (.ireturn, 1) := by decide +kernel
theorem dX3_bylinesAway_0 : decode cX3_bylinesAway 0 = .ok (.iconst 0, 1) := by decide +kernel
theorem dX3_bylinesAway_1 : decode cX3_bylinesAway 1 = .ok (.istore_n 1, 1) := by decide +kernel
theorem dX3_bylinesAway_2 : decode cX3_bylinesAway 2 = .ok (.iconst 0, 1) := by decide +kernel
theorem dX3_bylinesAway_3 : decode cX3_bylinesAway 3 = .ok (.istore_n 2, 1) := by decide +kernel
theorem dX3_bylinesAway_4 : decode cX3_bylinesAway 4 = .ok (.iload_n 2, 1) := by decide +kernel
theorem dX3_bylinesAway_5 : decode cX3_bylinesAway 5 = .ok (.aload_n 0, 1) := by decide +kernel
theorem dX3_bylinesAway_6 : decode cX3_bylinesAway 6 = .ok (.getfield 30, 3) := by decide +kernel
theorem dX3_bylinesAway_9 : decode cX3_bylinesAway 9 = .ok (.if_icmp .ge 27, 3) := by decide +kernel
theorem dX3_bylinesAway_12 : decode cX3_bylinesAway 12 = .ok (.iload_n 1, 1) := by decide +kernel
theorem dX3_bylinesAway_13 : decode cX3_bylinesAway 13 = .ok (.aload_n 0, 1) := by decide +kernel
theorem dX3_bylinesAway_14 : decode cX3_bylinesAway 14 = .ok (.getfield 21, 3) := by decide +kernel
theorem dX3_bylinesAway_17 : decode cX3_bylinesAway 17 = .ok (.iload_n 2, 1) := by decide +kernel
theorem dX3_bylinesAway_18 : decode cX3_bylinesAway 18 = .ok (.iaload, 1) := by decide +kernel
theorem dX3_bylinesAway_19 : decode cX3_bylinesAway 19 = .ok (.iload_n 2, 1) := by decide +kernel
theorem dX3_bylinesAway_20 : decode cX3_bylinesAway 20 = .ok (.if_icmp .eq 7, 3) := by decide +kernel
theorem dX3_bylinesAway_23 : decode cX3_bylinesAway 23 = .ok (.iconst 1, 1) := by decide +kernel
theorem dX3_bylinesAway_24 : decode cX3_bylinesAway 24 = .ok (.goto 4, 3) := by decide +kernel
theorem dX3_bylinesAway_27 : decode cX3_bylinesAway 27 = .ok (.iconst 0, 1) := by decide +kernel
theorem dX3_bylinesAway_28 : decode cX3_bylinesAway 28 = .ok (.iadd, 1) := by decide +kernel
theorem dX3_bylinesAway_29 : decode cX3_bylinesAway 29 = .ok (.istore_n 1, 1) := by decide +kernel
theorem dX3_bylinesAway_30 : decode cX3_bylinesAway 30 = .ok (.iinc 2 1, 3) := by decide +kernel
theorem dX3_bylinesAway_33 : decode cX3_bylinesAway 33 = .ok (.goto (-29), 3) := by decide +kernel
theorem dX3_bylinesAway_36 : decode cX3_bylinesAway 36 = .ok (.iload_n 1, 1) := by decide +kernel
theorem dX3_bylinesAway_37 : decode cX3_bylinesAway 37 = .ok (.ireturn, 1) := by decide +kernel
theorem dX3_placeOf_0 : decode cX3_placeOf 0 = .ok (.iconst 0, 1) := by decide +kernel
theorem dX3_placeOf_1 : decode cX3_placeOf 1 = .ok (.istore_n 2, 1) := by decide +kernel
theorem dX3_placeOf_2 : decode cX3_placeOf 2 = .ok (.iconst 0, 1) := by decide +kernel
theorem dX3_placeOf_3 : decode cX3_placeOf 3 = .ok (.istore_n 3, 1) := by decide +kernel
theorem dX3_placeOf_4 : decode cX3_placeOf 4 = .ok (.iload_n 3, 1) := by decide +kernel
theorem dX3_placeOf_5 : decode cX3_placeOf 5 = .ok (.aload_n 0, 1) := by decide +kernel
theorem dX3_placeOf_6 : decode cX3_placeOf 6 = .ok (.getfield 30, 3) := by decide +kernel
theorem dX3_placeOf_9 : decode cX3_placeOf 9 = .ok (.if_icmp .ge 64, 3) := by decide +kernel
theorem dX3_placeOf_12 : decode cX3_placeOf 12 = .ok (.aload_n 0, 1) := by decide +kernel
theorem dX3_placeOf_13 : decode cX3_placeOf 13 = .ok (.getfield 9, 3) := by decide +kernel
theorem dX3_placeOf_16 : decode cX3_placeOf 16 = .ok (.iload_n 3, 1) := by decide +kernel
theorem dX3_placeOf_17 : decode cX3_placeOf 17 = .ok (.iaload, 1) := by decide +kernel
theorem dX3_placeOf_18 : decode cX3_placeOf 18 = .ok (.aload_n 0, 1) := by decide +kernel
theorem dX3_placeOf_19 : decode cX3_placeOf 19 = .ok (.getfield 9, 3) := by decide +kernel
theorem dX3_placeOf_22 : decode cX3_placeOf 22 = .ok (.iload_n 1, 1) := by decide +kernel
theorem dX3_placeOf_23 : decode cX3_placeOf 23 = .ok (.iaload, 1) := by decide +kernel
theorem dX3_placeOf_24 : decode cX3_placeOf 24 = .ok (.if_icmp .gt 23, 3) := by decide +kernel
theorem dX3_placeOf_27 : decode cX3_placeOf 27 = .ok (.aload_n 0, 1) := by decide +kernel
theorem dX3_placeOf_28 : decode cX3_placeOf 28 = .ok (.getfield 9, 3) := by decide +kernel
theorem dX3_placeOf_31 : decode cX3_placeOf 31 = .ok (.iload_n 3, 1) := by decide +kernel
theorem dX3_placeOf_32 : decode cX3_placeOf 32 = .ok (.iaload, 1) := by decide +kernel
theorem dX3_placeOf_33 : decode cX3_placeOf 33 = .ok (.aload_n 0, 1) := by decide +kernel
theorem dX3_placeOf_34 : decode cX3_placeOf 34 = .ok (.getfield 9, 3) := by decide +kernel
theorem dX3_placeOf_37 : decode cX3_placeOf 37 = .ok (.iload_n 1, 1) := by decide +kernel
theorem dX3_placeOf_38 : decode cX3_placeOf 38 = .ok (.iaload, 1) := by decide +kernel
theorem dX3_placeOf_39 : decode cX3_placeOf 39 = .ok (.if_icmp .ne 12, 3) := by decide +kernel
theorem dX3_placeOf_42 : decode cX3_placeOf 42 = .ok (.iload_n 3, 1) := by decide +kernel
theorem dX3_placeOf_43 : decode cX3_placeOf 43 = .ok (.iload_n 1, 1) := by decide +kernel
theorem dX3_placeOf_44 : decode cX3_placeOf 44 = .ok (.if_icmp .ge 7, 3) := by decide +kernel
theorem dX3_placeOf_47 : decode cX3_placeOf 47 = .ok (.iconst 1, 1) := by decide +kernel
theorem dX3_placeOf_48 : decode cX3_placeOf 48 = .ok (.goto 4, 3) := by decide +kernel
theorem dX3_placeOf_51 : decode cX3_placeOf 51 = .ok (.iconst 0, 1) := by decide +kernel
theorem dX3_placeOf_52 : decode cX3_placeOf 52 = .ok (.istore 4, 2) := by decide +kernel
theorem dX3_placeOf_54 : decode cX3_placeOf 54 = .ok (.iload_n 2, 1) := by decide +kernel
theorem dX3_placeOf_55 : decode cX3_placeOf 55 = .ok (.iload 4, 2) := by decide +kernel
theorem dX3_placeOf_57 : decode cX3_placeOf 57 = .ok (.ifCond .eq 7, 3) := by decide +kernel
theorem dX3_placeOf_60 : decode cX3_placeOf 60 = .ok (.iconst 1, 1) := by decide +kernel
theorem dX3_placeOf_61 : decode cX3_placeOf 61 = .ok (.goto 4, 3) := by decide +kernel
theorem dX3_placeOf_64 : decode cX3_placeOf 64 = .ok (.iconst 0, 1) := by decide +kernel
theorem dX3_placeOf_65 : decode cX3_placeOf 65 = .ok (.iadd, 1) := by decide +kernel
theorem dX3_placeOf_66 : decode cX3_placeOf 66 = .ok (.istore_n 2, 1) := by decide +kernel
theorem dX3_placeOf_67 : decode cX3_placeOf 67 = .ok (.iinc 3 1, 3) := by decide +kernel
theorem dX3_placeOf_70 : decode cX3_placeOf 70 = .ok (.goto (-66), 3) := by decide +kernel
theorem dX3_placeOf_73 : decode cX3_placeOf 73 = .ok (.iload_n 2, 1) := by decide +kernel
theorem dX3_placeOf_74 : decode cX3_placeOf 74 = .ok (.ireturn, 1) := by decide +kernel
theorem dX3_differences_0 : decode cX3_differences 0 = .ok (.iconst 0, 1) := by decide +kernel
theorem dX3_differences_1 : decode cX3_differences 1 = .ok (.istore_n 1, 1) := by decide +kernel
theorem dX3_differences_2 : decode cX3_differences 2 = .ok (.iconst 0, 1) := by decide +kernel
theorem dX3_differences_3 : decode cX3_differences 3 = .ok (.istore_n 2, 1) := by decide +kernel
theorem dX3_differences_4 : decode cX3_differences 4 = .ok (.iload_n 2, 1) := by decide +kernel
theorem dX3_differences_5 : decode cX3_differences 5 = .ok (.aload_n 0, 1) := by decide +kernel
theorem dX3_differences_6 : decode cX3_differences 6 = .ok (.getfield 30, 3) := by decide +kernel
theorem dX3_differences_9 : decode cX3_differences 9 = .ok (.if_icmp .ge 46, 3) := by decide +kernel
theorem dX3_differences_12 : decode cX3_differences 12 = .ok (.iload_n 2, 1) := by decide +kernel
theorem dX3_differences_13 : decode cX3_differences 13 = .ok (.iconst 1, 1) := by decide +kernel
theorem dX3_differences_14 : decode cX3_differences 14 = .ok (.iadd, 1) := by decide +kernel
theorem dX3_differences_15 : decode cX3_differences 15 = .ok (.istore_n 3, 1) := by decide +kernel
theorem dX3_differences_16 : decode cX3_differences 16 = .ok (.iload_n 3, 1) := by decide +kernel
theorem dX3_differences_17 : decode cX3_differences 17 = .ok (.aload_n 0, 1) := by decide +kernel
theorem dX3_differences_18 : decode cX3_differences 18 = .ok (.getfield 30, 3) := by decide +kernel
theorem dX3_differences_21 : decode cX3_differences 21 = .ok (.if_icmp .ge 28, 3) := by decide +kernel
theorem dX3_differences_24 : decode cX3_differences 24 = .ok (.iload_n 1, 1) := by decide +kernel
theorem dX3_differences_25 : decode cX3_differences 25 = .ok (.aload_n 0, 1) := by decide +kernel
theorem dX3_differences_26 : decode cX3_differences 26 = .ok (.getfield 9, 3) := by decide +kernel
theorem dX3_differences_29 : decode cX3_differences 29 = .ok (.iload_n 2, 1) := by decide +kernel
theorem dX3_differences_30 : decode cX3_differences 30 = .ok (.iaload, 1) := by decide +kernel
theorem dX3_differences_31 : decode cX3_differences 31 = .ok (.aload_n 0, 1) := by decide +kernel
theorem dX3_differences_32 : decode cX3_differences 32 = .ok (.getfield 9, 3) := by decide +kernel
theorem dX3_differences_35 : decode cX3_differences 35 = .ok (.iload_n 3, 1) := by decide +kernel
theorem dX3_differences_36 : decode cX3_differences 36 = .ok (.iaload, 1) := by decide +kernel
theorem dX3_differences_37 : decode cX3_differences 37 = .ok (.isub, 1) := by decide +kernel
theorem dX3_differences_38 : decode cX3_differences 38 = .ok (.invokestatic 42, 3) := by decide +kernel
theorem dX3_differences_41 : decode cX3_differences 41 = .ok (.iadd, 1) := by decide +kernel
theorem dX3_differences_42 : decode cX3_differences 42 = .ok (.istore_n 1, 1) := by decide +kernel
theorem dX3_differences_43 : decode cX3_differences 43 = .ok (.iinc 3 1, 3) := by decide +kernel
theorem dX3_differences_46 : decode cX3_differences 46 = .ok (.goto (-30), 3) := by decide +kernel
theorem dX3_differences_49 : decode cX3_differences 49 = .ok (.iinc 2 1, 3) := by decide +kernel
theorem dX3_differences_52 : decode cX3_differences 52 = .ok (.goto (-48), 3) := by decide +kernel
theorem dX3_differences_55 : decode cX3_differences 55 = .ok (.iload_n 1, 1) := by decide +kernel
theorem dX3_differences_56 : decode cX3_differences 56 = .ok (.ireturn, 1) := by decide +kernel
end
section
theorem dX4_init_0 : decode cX4_init 0 = .ok (.aload_n 0, 1) := by decide +kernel
theorem dX4_init_1 : decode cX4_init 1 = .ok (.invokespecial 3, 3) := by decide +kernel
theorem dX4_init_4 : decode cX4_init 4 = .ok (.aload_n 0, 1) := by decide +kernel
theorem dX4_init_5 : decode cX4_init 5 = .ok (.bipush 20, 2) := by decide +kernel
theorem dX4_init_7 : decode cX4_init 7 = .ok (.newarray .int, 2) := by decide +kernel
theorem dX4_init_9 : decode cX4_init 9 = .ok (.putfield 9, 3) := by decide +kernel
theorem dX4_init_12 : decode cX4_init 12 = .ok (.aload_n 0, 1) := by decide +kernel
theorem dX4_init_13 : decode cX4_init 13 = .ok (.bipush 20, 2) := by decide +kernel
theorem dX4_init_15 : decode cX4_init 15 = .ok (.newarray .int, 2) := by decide +kernel
theorem dX4_init_17 : decode cX4_init 17 = .ok (.putfield 15, 3) := by decide +kernel
theorem dX4_init_20 : decode cX4_init 20 = .ok (.aload_n 0, 1) := by decide +kernel
theorem dX4_init_21 : decode cX4_init 21 = .ok (.bipush 20, 2) := by decide +kernel
theorem dX4_init_23 : decode cX4_init 23 = .ok (.newarray .int, 2) := by decide +kernel
theorem dX4_init_25 : decode cX4_init 25 = .ok (.putfield 18, 3) := by decide +kernel
theorem dX4_init_28 : decode cX4_init 28 = .ok (.aload_n 0, 1) := by decide +kernel
theorem dX4_init_29 : decode cX4_init 29 = .ok (.bipush 20, 2) := by decide +kernel
theorem dX4_init_31 : decode cX4_init 31 = .ok (.newarray .int, 2) := by decide +kernel
theorem dX4_init_33 : decode cX4_init 33 = .ok (.putfield 21, 3) := by decide +kernel
theorem dX4_init_36 : decode cX4_init 36 = .ok (.aload_n 0, 1) := by decide +kernel
theorem dX4_init_37 : decode cX4_init 37 = .ok (.bipush 20, 2) := by decide +kernel
theorem dX4_init_39 : decode cX4_init 39 = .ok (.newarray .int, 2) := by decide +kernel
theorem dX4_init_41 : decode cX4_init 41 = .ok (.putfield 24, 3) := by decide +kernel
theorem dX4_init_44 : decode cX4_init 44 = .ok (.aload_n 0, 1) := by decide +kernel
theorem dX4_init_45 : decode cX4_init 45 = .ok (.sipush 240, 3) := by decide +kernel
theorem dX4_init_48 : decode cX4_init 48 = .ok (.newarray .int, 2) := by decide +kernel
theorem dX4_init_50 : decode cX4_init 50 = .ok (.putfield 27, 3) := by decide +kernel
theorem dX4_init_53 : decode cX4_init 53 = .ok (.aload_n 0, 1) := by decide +kernel
theorem dX4_init_54 : decode cX4_init 54 = .ok (.sipush 240, 3) := by decide +kernel
theorem dX4_init_57 : decode cX4_init 57 = .ok (.newarray .int, 2) := by decide +kernel
theorem dX4_init_59 : decode cX4_init 59 = .ok (.putfield 30, 3) := by decide +kernel
theorem dX4_init_62 : decode cX4_init 62 = .ok (.aload_n 0, 1) := by decide +kernel
theorem dX4_init_63 : decode cX4_init 63 = .ok (.sipush 240, 3) := by decide +kernel
theorem dX4_init_66 : decode cX4_init 66 = .ok (.newarray .int, 2) := by decide +kernel
theorem dX4_init_68 : decode cX4_init 68 = .ok (.putfield 33, 3) := by decide +kernel
theorem dX4_init_71 : decode cX4_init 71 = .ok (.return_, 1) := by decide +kernel
theorem dX4_copyFrom_0 : decode cX4_copyFrom 0 = .ok (.aload_n 0, 1) := by decide +kernel
theorem dX4_copyFrom_1 : decode cX4_copyFrom 1 = .ok (.aload_n 1, 1) := by decide +kernel
theorem dX4_copyFrom_2 : decode cX4_copyFrom 2 = .ok (.getfield 36, 3) := by decide +kernel
theorem dX4_copyFrom_5 : decode cX4_copyFrom 5 = .ok (.putfield 36, 3) := by decide +kernel
theorem dX4_copyFrom_8 : decode cX4_copyFrom 8 = .ok (.aload_n 1, 1) := by decide +kernel
theorem dX4_copyFrom_9 : decode cX4_copyFrom 9 = .ok (.getfield 9, 3) := by decide +kernel
theorem dX4_copyFrom_12 : decode cX4_copyFrom 12 = .ok (.aload_n 0, 1) := by decide +kernel
theorem dX4_copyFrom_13 : decode cX4_copyFrom 13 = .ok (.getfield 9, 3) := by decide +kernel
theorem dX4_copyFrom_16 : decode cX4_copyFrom 16 = .ok (.invokestatic 40, 3) := by decide +kernel
theorem dX4_copyFrom_19 : decode cX4_copyFrom 19 = .ok (.aload_n 1, 1) := by decide +kernel
theorem dX4_copyFrom_20 : decode cX4_copyFrom 20 = .ok (.getfield 15, 3) := by decide +kernel
theorem dX4_copyFrom_23 : decode cX4_copyFrom 23 = .ok (.aload_n 0, 1) := by decide +kernel
theorem dX4_copyFrom_24 : decode cX4_copyFrom 24 = .ok (.getfield 15, 3) := by decide +kernel
theorem dX4_copyFrom_27 : decode cX4_copyFrom 27 = .ok (.invokestatic 40, 3) := by decide +kernel
theorem dX4_copyFrom_30 : decode cX4_copyFrom 30 = .ok (.aload_n 1, 1) := by decide +kernel
theorem dX4_copyFrom_31 : decode cX4_copyFrom 31 = .ok (.getfield 18, 3) := by decide +kernel
theorem dX4_copyFrom_34 : decode cX4_copyFrom 34 = .ok (.aload_n 0, 1) := by decide +kernel
theorem dX4_copyFrom_35 : decode cX4_copyFrom 35 = .ok (.getfield 18, 3) := by decide +kernel
theorem dX4_copyFrom_38 : decode cX4_copyFrom 38 = .ok (.invokestatic 40, 3) := by decide +kernel
theorem dX4_copyFrom_41 : decode cX4_copyFrom 41 = .ok (.aload_n 1, 1) := by decide +kernel
theorem dX4_copyFrom_42 : decode cX4_copyFrom 42 = .ok (.getfield 21, 3) := by decide +kernel
theorem dX4_copyFrom_45 : decode cX4_copyFrom 45 = .ok (.aload_n 0, 1) := by decide +kernel
theorem dX4_copyFrom_46 : decode cX4_copyFrom 46 = .ok (.getfield 21, 3) := by decide +kernel
theorem dX4_copyFrom_49 : decode cX4_copyFrom 49 = .ok (.invokestatic 40, 3) := by decide +kernel
theorem dX4_copyFrom_52 : decode cX4_copyFrom 52 = .ok (.aload_n 1, 1) := by decide +kernel
theorem dX4_copyFrom_53 : decode cX4_copyFrom 53 = .ok (.getfield 24, 3) := by decide +kernel
theorem dX4_copyFrom_56 : decode cX4_copyFrom 56 = .ok (.aload_n 0, 1) := by decide +kernel
theorem dX4_copyFrom_57 : decode cX4_copyFrom 57 = .ok (.getfield 24, 3) := by decide +kernel
theorem dX4_copyFrom_60 : decode cX4_copyFrom 60 = .ok (.invokestatic 40, 3) := by decide +kernel
theorem dX4_copyFrom_63 : decode cX4_copyFrom 63 = .ok (.aload_n 1, 1) := by decide +kernel
theorem dX4_copyFrom_64 : decode cX4_copyFrom 64 = .ok (.getfield 27, 3) := by decide +kernel
theorem dX4_copyFrom_67 : decode cX4_copyFrom 67 = .ok (.aload_n 0, 1) := by decide +kernel
theorem dX4_copyFrom_68 : decode cX4_copyFrom 68 = .ok (.getfield 27, 3) := by decide +kernel
theorem dX4_copyFrom_71 : decode cX4_copyFrom 71 = .ok (.invokestatic 40, 3) := by decide +kernel
theorem dX4_copyFrom_74 : decode cX4_copyFrom 74 = .ok (.aload_n 1, 1) := by decide +kernel
theorem dX4_copyFrom_75 : decode cX4_copyFrom 75 = .ok (.getfield 30, 3) := by decide +kernel
theorem dX4_copyFrom_78 : decode cX4_copyFrom 78 = .ok (.aload_n 0, 1) := by decide +kernel
theorem dX4_copyFrom_79 : decode cX4_copyFrom 79 = .ok (.getfield 30, 3) := by decide +kernel
theorem dX4_copyFrom_82 : decode cX4_copyFrom 82 = .ok (.invokestatic 40, 3) := by decide +kernel
theorem dX4_copyFrom_85 : decode cX4_copyFrom 85 = .ok (.aload_n 1, 1) := by decide +kernel
theorem dX4_copyFrom_86 : decode cX4_copyFrom 86 = .ok (.getfield 33, 3) := by decide +kernel
theorem dX4_copyFrom_89 : decode cX4_copyFrom 89 = .ok (.aload_n 0, 1) := by decide +kernel
theorem dX4_copyFrom_90 : decode cX4_copyFrom 90 = .ok (.getfield 33, 3) := by decide +kernel
theorem dX4_copyFrom_93 : decode cX4_copyFrom 93 = .ok (.invokestatic 40, 3) := by decide +kernel
theorem dX4_copyFrom_96 : decode cX4_copyFrom 96 = .ok (.return_, 1) := by decide +kernel
theorem dX4_begin_0 : decode cX4_begin 0 = .ok (.aload_n 0, 1) := by decide +kernel
theorem dX4_begin_1 : decode cX4_begin 1 = .ok (.getfield 36, 3) := by decide +kernel
theorem dX4_begin_4 : decode cX4_begin 4 = .ok (.istore_n 3, 1) := by decide +kernel
theorem dX4_begin_5 : decode cX4_begin 5 = .ok (.aload_n 0, 1) := by decide +kernel
theorem dX4_begin_6 : decode cX4_begin 6 = .ok (.getfield 9, 3) := by decide +kernel
theorem dX4_begin_9 : decode cX4_begin 9 = .ok (.iload_n 3, 1) := by decide +kernel
theorem dX4_begin_10 : decode cX4_begin 10 = .ok (.iload_n 1, 1) := by decide +kernel
theorem dX4_begin_11 : decode cX4_begin 11 = .ok (.iastore, 1) := by decide +kernel
theorem dX4_begin_12 : decode cX4_begin 12 = .ok (.aload_n 0, 1) := by decide +kernel
theorem dX4_begin_13 : decode cX4_begin 13 = .ok (.getfield 15, 3) := by decide +kernel
theorem dX4_begin_16 : decode cX4_begin 16 = .ok (.iload_n 3, 1) := by decide +kernel
theorem dX4_begin_17 : decode cX4_begin 17 = .ok (.iload_n 2, 1) := by decide +kernel
theorem dX4_begin_18 : decode cX4_begin 18 = .ok (.iastore, 1) := by decide +kernel
theorem dX4_begin_19 : decode cX4_begin 19 = .ok (.aload_n 0, 1) := by decide +kernel
theorem dX4_begin_20 : decode cX4_begin 20 = .ok (.getfield 21, 3) := by decide +kernel
theorem dX4_begin_23 : decode cX4_begin 23 = .ok (.iload_n 3, 1) := by decide +kernel
theorem dX4_begin_24 : decode cX4_begin 24 = .ok (.iconst 1, 1) := by decide +kernel
theorem dX4_begin_25 : decode cX4_begin 25 = .ok (.iastore, 1) := by decide +kernel
theorem dX4_begin_26 : decode cX4_begin 26 = .ok (.aload_n 0, 1) := by decide +kernel
theorem dX4_begin_27 : decode cX4_begin 27 = .ok (.getfield 27, 3) := by decide +kernel
theorem dX4_begin_30 : decode cX4_begin 30 = .ok (.iload_n 3, 1) := by decide +kernel
theorem dX4_begin_31 : decode cX4_begin 31 = .ok (.iload_n 1, 1) := by decide +kernel
theorem dX4_begin_32 : decode cX4_begin 32 = .ok (.invokestatic 44, 3) := by decide +kernel
theorem dX4_begin_35 : decode cX4_begin 35 = .ok (.iconst 1, 1) := by decide +kernel
theorem dX4_begin_36 : decode cX4_begin 36 = .ok (.iastore, 1) := by decide +kernel
theorem dX4_begin_37 : decode cX4_begin 37 = .ok (.aload_n 0, 1) := by decide +kernel
theorem dX4_begin_38 : decode cX4_begin 38 = .ok (.iload_n 3, 1) := by decide +kernel
theorem dX4_begin_39 : decode cX4_begin 39 = .ok (.iconst 1, 1) := by decide +kernel
theorem dX4_begin_40 : decode cX4_begin 40 = .ok (.iadd, 1) := by decide +kernel
theorem dX4_begin_41 : decode cX4_begin 41 = .ok (.putfield 36, 3) := by decide +kernel
theorem dX4_begin_44 : decode cX4_begin 44 = .ok (.iload_n 3, 1) := by decide +kernel
theorem dX4_begin_45 : decode cX4_begin 45 = .ok (.ireturn, 1) := by decide +kernel
theorem dX4_allParts_0 : decode cX4_allParts 0 = .ok (.aload_n 0, 1) := by decide +kernel
theorem dX4_allParts_1 : decode cX4_allParts 1 = .ok (.getfield 27, 3) := by decide +kernel
theorem dX4_allParts_4 : decode cX4_allParts 4 = .ok (.iload_n 1, 1) := by decide +kernel
theorem dX4_allParts_5 : decode cX4_allParts 5 = .ok (.invokestatic 48, 3) := by decide +kernel
theorem dX4_allParts_8 : decode cX4_allParts 8 = .ok (.ireturn, 1) := by decide +kernel
theorem dX4_allDrafts_0 : decode cX4_allDrafts 0 = .ok (.aload_n 0, 1) := by decide +kernel
theorem dX4_allDrafts_1 : decode cX4_allDrafts 1 = .ok (.getfield 30, 3) := by decide +kernel
theorem dX4_allDrafts_4 : decode cX4_allDrafts 4 = .ok (.iload_n 1, 1) := by decide +kernel
theorem dX4_allDrafts_5 : decode cX4_allDrafts 5 = .ok (.invokestatic 48, 3) := by decide +kernel
theorem dX4_allDrafts_8 : decode cX4_allDrafts 8 = .ok (.ireturn, 1) := by decide +kernel
theorem dX4_draftsBy_0 : decode cX4_draftsBy 0 = .ok (.iconst 0, 1) := by decide +kernel
theorem dX4_draftsBy_1 : decode cX4_draftsBy 1 = .ok (.istore_n 2, 1) := by decide +kernel
theorem dX4_draftsBy_2 : decode cX4_draftsBy 2 = .ok (.iconst 0, 1) := by decide +kernel
theorem dX4_draftsBy_3 : decode cX4_draftsBy 3 = .ok (.istore_n 3, 1) := by decide +kernel
theorem dX4_draftsBy_4 : decode cX4_draftsBy 4 = .ok (.iload_n 3, 1) := by decide +kernel
theorem dX4_draftsBy_5 : decode cX4_draftsBy 5 = .ok (.aload_n 0, 1) := by decide +kernel
theorem dX4_draftsBy_6 : decode cX4_draftsBy 6 = .ok (.getfield 36, 3) := by decide +kernel
theorem dX4_draftsBy_9 : decode cX4_draftsBy 9 = .ok (.if_icmp .ge 22, 3) := by decide +kernel
theorem dX4_draftsBy_12 : decode cX4_draftsBy 12 = .ok (.iload_n 2, 1) := by decide +kernel
theorem dX4_draftsBy_13 : decode cX4_draftsBy 13 = .ok (.aload_n 0, 1) := by decide +kernel
theorem dX4_draftsBy_14 : decode cX4_draftsBy 14 = .ok (.getfield 30, 3) := by decide +kernel
theorem dX4_draftsBy_17 : decode cX4_draftsBy 17 = .ok (.iload_n 3, 1) := by decide +kernel
theorem dX4_draftsBy_18 : decode cX4_draftsBy 18 = .ok (.iload_n 1, 1) := by decide +kernel
theorem dX4_draftsBy_19 : decode cX4_draftsBy 19 = .ok (.invokestatic 44, 3) := by decide +kernel
theorem dX4_draftsBy_22 : decode cX4_draftsBy 22 = .ok (.iaload, 1) := by decide +kernel
theorem dX4_draftsBy_23 : decode cX4_draftsBy 23 = .ok (.iadd, 1) := by decide +kernel
theorem dX4_draftsBy_24 : decode cX4_draftsBy 24 = .ok (.istore_n 2, 1) := by decide +kernel
theorem dX4_draftsBy_25 : decode cX4_draftsBy 25 = .ok (.iinc 3 1, 3) := by decide +kernel
theorem dX4_draftsBy_28 : decode cX4_draftsBy 28 = .ok (.goto (-24), 3) := by decide +kernel
theorem dX4_draftsBy_31 : decode cX4_draftsBy 31 = .ok (.iload_n 2, 1) := by decide +kernel
theorem dX4_draftsBy_32 : decode cX4_draftsBy 32 = .ok (.ireturn, 1) := by decide +kernel
theorem dX4_sharers_0 : decode cX4_sharers 0 = .ok (.iconst 0, 1) := by decide +kernel
theorem dX4_sharers_1 : decode cX4_sharers 1 = .ok (.istore_n 2, 1) := by decide +kernel
theorem dX4_sharers_2 : decode cX4_sharers 2 = .ok (.iconst 0, 1) := by decide +kernel
theorem dX4_sharers_3 : decode cX4_sharers 3 = .ok (.istore_n 3, 1) := by decide +kernel
theorem dX4_sharers_4 : decode cX4_sharers 4 = .ok (.iload_n 3, 1) := by decide +kernel
theorem dX4_sharers_5 : decode cX4_sharers 5 = .ok (.bipush 12, 2) := by decide +kernel
theorem dX4_sharers_7 : decode cX4_sharers 7 = .ok (.if_icmp .ge 30, 3) := by decide +kernel
theorem dX4_sharers_10 : decode cX4_sharers 10 = .ok (.iload_n 2, 1) := by decide +kernel
theorem dX4_sharers_11 : decode cX4_sharers 11 = .ok (.aload_n 0, 1) := by decide +kernel
theorem dX4_sharers_12 : decode cX4_sharers 12 = .ok (.getfield 27, 3) := by decide +kernel
theorem dX4_sharers_15 : decode cX4_sharers 15 = .ok (.iload_n 1, 1) := by decide +kernel
theorem dX4_sharers_16 : decode cX4_sharers 16 = .ok (.iload_n 3, 1) := by decide +kernel
theorem dX4_sharers_17 : decode cX4_sharers 17 = .ok (.invokestatic 44, 3) := by decide +kernel
theorem dX4_sharers_20 : decode cX4_sharers 20 = .ok (.iaload, 1) := by decide +kernel
theorem dX4_sharers_21 : decode cX4_sharers 21 = .ok (.ifCond .le 7, 3) := by decide +kernel
theorem dX4_sharers_24 : decode cX4_sharers 24 = .ok (.iconst 1, 1) := by decide +kernel
theorem dX4_sharers_25 : decode cX4_sharers 25 = .ok (.goto 4, 3) := by decide +kernel
theorem dX4_sharers_28 : decode cX4_sharers 28 = .ok (.iconst 0, 1) := by decide +kernel
theorem dX4_sharers_29 : decode cX4_sharers 29 = .ok (.iadd, 1) := by decide +kernel
theorem dX4_sharers_30 : decode cX4_sharers 30 = .ok (.istore_n 2, 1) := by decide +kernel
theorem dX4_sharers_31 : decode cX4_sharers 31 = .ok (.iinc 3 1, 3) := by decide +kernel
theorem dX4_sharers_34 : decode cX4_sharers 34 = .ok (.goto (-30), 3) := by decide +kernel
theorem dX4_sharers_37 : decode cX4_sharers 37 = .ok (.iload_n 2, 1) := by decide +kernel
theorem dX4_sharers_38 : decode cX4_sharers 38 = .ok (.ireturn, 1) := by decide +kernel
theorem dX4_inStage_0 : decode cX4_inStage 0 = .ok (.iconst 0, 1) := by decide +kernel
theorem dX4_inStage_1 : decode cX4_inStage 1 = .ok (.istore_n 2, 1) := by decide +kernel
theorem dX4_inStage_2 : decode cX4_inStage 2 = .ok (.iconst 0, 1) := by decide +kernel
theorem dX4_inStage_3 : decode cX4_inStage 3 = .ok (.istore_n 3, 1) := by decide +kernel
theorem dX4_inStage_4 : decode cX4_inStage 4 = .ok (.iload_n 3, 1) := by decide +kernel
theorem dX4_inStage_5 : decode cX4_inStage 5 = .ok (.aload_n 0, 1) := by decide +kernel
theorem dX4_inStage_6 : decode cX4_inStage 6 = .ok (.getfield 36, 3) := by decide +kernel
theorem dX4_inStage_9 : decode cX4_inStage 9 = .ok (.if_icmp .ge 27, 3) := by decide +kernel
theorem dX4_inStage_12 : decode cX4_inStage 12 = .ok (.iload_n 2, 1) := by decide +kernel
theorem dX4_inStage_13 : decode cX4_inStage 13 = .ok (.aload_n 0, 1) := by decide +kernel
theorem dX4_inStage_14 : decode cX4_inStage 14 = .ok (.getfield 18, 3) := by decide +kernel
theorem dX4_inStage_17 : decode cX4_inStage 17 = .ok (.iload_n 3, 1) := by decide +kernel
theorem dX4_inStage_18 : decode cX4_inStage 18 = .ok (.iaload, 1) := by decide +kernel
theorem dX4_inStage_19 : decode cX4_inStage 19 = .ok (.iload_n 1, 1) := by decide +kernel
theorem dX4_inStage_20 : decode cX4_inStage 20 = .ok (.if_icmp .ne 7, 3) := by decide +kernel
theorem dX4_inStage_23 : decode cX4_inStage 23 = .ok (.iconst 1, 1) := by decide +kernel
theorem dX4_inStage_24 : decode cX4_inStage 24 = .ok (.goto 4, 3) := by decide +kernel
theorem dX4_inStage_27 : decode cX4_inStage 27 = .ok (.iconst 0, 1) := by decide +kernel
theorem dX4_inStage_28 : decode cX4_inStage 28 = .ok (.iadd, 1) := by decide +kernel
theorem dX4_inStage_29 : decode cX4_inStage 29 = .ok (.istore_n 2, 1) := by decide +kernel
theorem dX4_inStage_30 : decode cX4_inStage 30 = .ok (.iinc 3 1, 3) := by decide +kernel
theorem dX4_inStage_33 : decode cX4_inStage 33 = .ok (.goto (-29), 3) := by decide +kernel
theorem dX4_inStage_36 : decode cX4_inStage 36 = .ok (.iload_n 2, 1) := by decide +kernel
theorem dX4_inStage_37 : decode cX4_inStage 37 = .ok (.ireturn, 1) := by decide +kernel
theorem dX4_disputers_0 : decode cX4_disputers 0 = .ok (.aload_n 0, 1) := by decide +kernel
theorem dX4_disputers_1 : decode cX4_disputers 1 = .ok (.getfield 18, 3) := by decide +kernel
theorem dX4_disputers_4 : decode cX4_disputers 4 = .ok (.iload_n 1, 1) := by decide +kernel
theorem dX4_disputers_5 : decode cX4_disputers 5 = .ok (.iaload, 1) := by decide +kernel
theorem dX4_disputers_6 : decode cX4_disputers 6 = .ok (.iconst 4, 1) := by decide +kernel
theorem dX4_disputers_7 : decode cX4_disputers 7 = .ok (.if_icmp .ne 5, 3) := by decide +kernel
theorem dX4_disputers_10 : decode cX4_disputers 10 = .ok (.iconst 0, 1) := by decide +kernel
theorem dX4_disputers_11 : decode cX4_disputers 11 = .ok (.ireturn, 1) := by decide +kernel
theorem dX4_disputers_12 : decode cX4_disputers 12 = .ok (.aload_n 0, 1) := by decide +kernel
theorem dX4_disputers_13 : decode cX4_disputers 13 = .ok (.iload_n 1, 1) := by decide +kernel
theorem dX4_disputers_14 : decode cX4_disputers 14 = .ok (.invokevirtual 52, 3) := by decide +kernel
theorem dX4_disputers_17 : decode cX4_disputers 17 = .ok (.istore_n 2, 1) := by decide +kernel
theorem dX4_disputers_18 : decode cX4_disputers 18 = .ok (.aload_n 0, 1) := by decide +kernel
theorem dX4_disputers_19 : decode cX4_disputers 19 = .ok (.iload_n 1, 1) := by decide +kernel
theorem dX4_disputers_20 : decode cX4_disputers 20 = .ok (.invokevirtual 56, 3) := by decide +kernel
theorem dX4_disputers_23 : decode cX4_disputers 23 = .ok (.istore_n 3, 1) := by decide +kernel
theorem dX4_disputers_24 : decode cX4_disputers 24 = .ok (.iconst 0, 1) := by decide +kernel
theorem dX4_disputers_25 : decode cX4_disputers 25 = .ok (.istore 4, 2) := by decide +kernel
theorem dX4_disputers_27 : decode cX4_disputers 27 = .ok (.iconst 0, 1) := by decide +kernel
theorem dX4_disputers_28 : decode cX4_disputers 28 = .ok (.istore 5, 2) := by decide +kernel
theorem dX4_disputers_30 : decode cX4_disputers 30 = .ok (.iload 5, 2) := by decide +kernel
theorem dX4_disputers_32 : decode cX4_disputers 32 = .ok (.bipush 12, 2) := by decide +kernel
theorem dX4_disputers_34 : decode cX4_disputers 34 = .ok (.if_icmp .ge 63, 3) := by decide +kernel
theorem dX4_disputers_37 : decode cX4_disputers 37 = .ok (.aload_n 0, 1) := by decide +kernel
theorem dX4_disputers_38 : decode cX4_disputers 38 = .ok (.getfield 27, 3) := by decide +kernel
theorem dX4_disputers_41 : decode cX4_disputers 41 = .ok (.iload_n 1, 1) := by decide +kernel
theorem dX4_disputers_42 : decode cX4_disputers 42 = .ok (.iload 5, 2) := by decide +kernel
theorem dX4_disputers_44 : decode cX4_disputers 44 = .ok (.invokestatic 44, 3) := by decide +kernel
theorem dX4_disputers_47 : decode cX4_disputers 47 = .ok (.iaload, 1) := by decide +kernel
theorem dX4_disputers_48 : decode cX4_disputers 48 = .ok (.iload_n 3, 1) := by decide +kernel
theorem dX4_disputers_49 : decode cX4_disputers 49 = .ok (.imul, 1) := by decide +kernel
theorem dX4_disputers_50 : decode cX4_disputers 50 = .ok (.aload_n 0, 1) := by decide +kernel
theorem dX4_disputers_51 : decode cX4_disputers 51 = .ok (.getfield 30, 3) := by decide +kernel
theorem dX4_disputers_54 : decode cX4_disputers 54 = .ok (.iload_n 1, 1) := by decide +kernel
theorem dX4_disputers_55 : decode cX4_disputers 55 = .ok (.iload 5, 2) := by decide +kernel
theorem dX4_disputers_57 : decode cX4_disputers 57 = .ok (.invokestatic 44, 3) := by decide +kernel
theorem dX4_disputers_60 : decode cX4_disputers 60 = .ok (.iaload, 1) := by decide +kernel
theorem dX4_disputers_61 : decode cX4_disputers 61 = .ok (.iload_n 2, 1) := by decide +kernel
theorem dX4_disputers_62 : decode cX4_disputers 62 = .ok (.imul, 1) := by decide +kernel
theorem dX4_disputers_63 : decode cX4_disputers 63 = .ok (.if_icmp .ge 7, 3) := by decide +kernel
theorem dX4_disputers_66 : decode cX4_disputers 66 = .ok (.iconst 1, 1) := by decide +kernel
theorem dX4_disputers_67 : decode cX4_disputers 67 = .ok (.goto 4, 3) := by decide +kernel
theorem dX4_disputers_70 : decode cX4_disputers 70 = .ok (.iconst 0, 1) := by decide +kernel
theorem dX4_disputers_71 : decode cX4_disputers 71 = .ok (.istore 6, 2) := by decide +kernel
theorem dX4_disputers_73 : decode cX4_disputers 73 = .ok (.iload 4, 2) := by decide +kernel
theorem dX4_disputers_75 : decode cX4_disputers 75 = .ok (.iload 6, 2) := by decide +kernel
theorem dX4_disputers_77 : decode cX4_disputers 77 = .ok (.ifCond .eq 10, 3) := by decide +kernel
theorem dX4_disputers_80 : decode cX4_disputers 80 = .ok (.iconst 1, 1) := by decide +kernel
theorem dX4_disputers_81 : decode cX4_disputers 81 = .ok (.iload 5, 2) := by decide +kernel
theorem dX4_disputers_83 : decode cX4_disputers 83 = .ok (.ishl, 1) := by decide +kernel
theorem dX4_disputers_84 : decode cX4_disputers 84 = .ok (.goto 4, 3) := by decide +kernel
theorem dX4_disputers_87 : decode cX4_disputers 87 = .ok (.iconst 0, 1) := by decide +kernel
theorem dX4_disputers_88 : decode cX4_disputers 88 = .ok (.ior, 1) := by decide +kernel
theorem dX4_disputers_89 : decode cX4_disputers 89 = .ok (.istore 4, 2) := by decide +kernel
theorem dX4_disputers_91 : decode cX4_disputers 91 = .ok (.iinc 5 1, 3) := by decide +kernel
theorem dX4_disputers_94 : decode cX4_disputers 94 = .ok (.goto (-64), 3) := by decide +kernel
theorem dX4_disputers_97 : decode cX4_disputers 97 = .ok (.iload 4, 2) := by decide +kernel
theorem dX4_disputers_99 : decode cX4_disputers 99 = .ok (.ireturn, 1) := by decide +kernel
theorem dX4_takeParts_0 : decode cX4_takeParts 0 = .ok (.iconst 0, 1) := by decide +kernel
theorem dX4_takeParts_1 : decode cX4_takeParts 1 = .ok (.istore_n 3, 1) := by decide +kernel
theorem dX4_takeParts_2 : decode cX4_takeParts 2 = .ok (.iload_n 3, 1) := by decide +kernel
theorem dX4_takeParts_3 : decode cX4_takeParts 3 = .ok (.bipush 12, 2) := by decide +kernel
theorem dX4_takeParts_5 : decode cX4_takeParts 5 = .ok (.if_icmp .ge 28, 3) := by decide +kernel
theorem dX4_takeParts_8 : decode cX4_takeParts 8 = .ok (.iload_n 3, 1) := by decide +kernel
theorem dX4_takeParts_9 : decode cX4_takeParts 9 = .ok (.aload_n 2, 1) := by decide +kernel
theorem dX4_takeParts_10 : decode cX4_takeParts 10 = .ok (.arraylength, 1) := by decide +kernel
theorem dX4_takeParts_11 : decode cX4_takeParts 11 = .ok (.if_icmp .ge 22, 3) := by decide +kernel
theorem dX4_takeParts_14 : decode cX4_takeParts 14 = .ok (.aload_n 0, 1) := by decide +kernel
theorem dX4_takeParts_15 : decode cX4_takeParts 15 = .ok (.getfield 27, 3) := by decide +kernel
theorem dX4_takeParts_18 : decode cX4_takeParts 18 = .ok (.iload_n 1, 1) := by decide +kernel
theorem dX4_takeParts_19 : decode cX4_takeParts 19 = .ok (.iload_n 3, 1) := by decide +kernel
theorem dX4_takeParts_20 : decode cX4_takeParts 20 = .ok (.invokestatic 44, 3) := by decide +kernel
theorem dX4_takeParts_23 : decode cX4_takeParts 23 = .ok (.aload_n 2, 1) := by decide +kernel
theorem dX4_takeParts_24 : decode cX4_takeParts 24 = .ok (.iload_n 3, 1) := by decide +kernel
theorem dX4_takeParts_25 : decode cX4_takeParts 25 = .ok (.iaload, 1) := by decide +kernel
theorem dX4_takeParts_26 : decode cX4_takeParts 26 = .ok (.iastore, 1) := by decide +kernel
theorem dX4_takeParts_27 : decode cX4_takeParts 27 = .ok (.iinc 3 1, 3) := by decide +kernel
theorem dX4_takeParts_30 : decode cX4_takeParts 30 = .ok (.goto (-28), 3) := by decide +kernel
theorem dX4_takeParts_33 : decode cX4_takeParts 33 = .ok (.return_, 1) := by decide +kernel
theorem dX4_takePartsFromDrafts_0 : decode cX4_takePartsFromDrafts 0 = .ok (.aload_n 0, 1) := by decide +kernel
theorem dX4_takePartsFromDrafts_1 : decode cX4_takePartsFromDrafts 1 = .ok (.iload_n 1, 1) := by decide +kernel
theorem dX4_takePartsFromDrafts_2 : decode cX4_takePartsFromDrafts 2 = .ok (.invokevirtual 59, 3) := by decide +kernel
theorem dX4_takePartsFromDrafts_5 : decode cX4_takePartsFromDrafts 5 = .ok (.istore_n 2, 1) := by decide +kernel
theorem dX4_takePartsFromDrafts_6 : decode cX4_takePartsFromDrafts 6 = .ok (.iconst 0, 1) := by decide +kernel
theorem dX4_takePartsFromDrafts_7 : decode cX4_takePartsFromDrafts 7 = .ok (.istore_n 3, 1) := by decide +kernel
theorem dX4_takePartsFromDrafts_8 : decode cX4_takePartsFromDrafts 8 = .ok (.iload_n 3, 1) := by decide +kernel
theorem dX4_takePartsFromDrafts_9 : decode cX4_takePartsFromDrafts 9 = .ok (.bipush 12, 2) := by decide +kernel
theorem dX4_takePartsFromDrafts_11 : decode cX4_takePartsFromDrafts 11 = .ok (.if_icmp .ge 41, 3) := by decide +kernel
theorem dX4_takePartsFromDrafts_14 : decode cX4_takePartsFromDrafts 14 = .ok (.aload_n 0, 1) := by decide +kernel
theorem dX4_takePartsFromDrafts_15 : decode cX4_takePartsFromDrafts 15 = .ok (.getfield 27, 3) := by decide +kernel
theorem dX4_takePartsFromDrafts_18 : decode cX4_takePartsFromDrafts 18 = .ok (.iload_n 1, 1) := by decide +kernel
theorem dX4_takePartsFromDrafts_19 : decode cX4_takePartsFromDrafts 19 = .ok (.iload_n 3, 1) := by decide +kernel
theorem dX4_takePartsFromDrafts_20 : decode cX4_takePartsFromDrafts 20 = .ok (.invokestatic 44, 3) := by decide +kernel
theorem dX4_takePartsFromDrafts_23 : decode cX4_takePartsFromDrafts 23 = .ok (.iload_n 2, 1) := by decide +kernel
theorem dX4_takePartsFromDrafts_24 : decode cX4_takePartsFromDrafts 24 = .ok (.iload_n 3, 1) := by decide +kernel
theorem dX4_takePartsFromDrafts_25 : decode cX4_takePartsFromDrafts 25 = .ok (.invokestatic 62, 3) := by decide +kernel
theorem dX4_takePartsFromDrafts_28 : decode cX4_takePartsFromDrafts 28 = .ok (.ifCond .eq 16, 3) := by decide +kernel
theorem dX4_takePartsFromDrafts_31 : decode cX4_takePartsFromDrafts 31 = .ok (.aload_n 0, 1) := by decide +kernel
theorem dX4_takePartsFromDrafts_32 : decode cX4_takePartsFromDrafts 32 = .ok (.getfield 30, 3) := by decide +kernel
theorem dX4_takePartsFromDrafts_35 : decode cX4_takePartsFromDrafts 35 = .ok (.iload_n 1, 1) := by decide +kernel
theorem dX4_takePartsFromDrafts_36 : decode cX4_takePartsFromDrafts 36 = .ok (.iload_n 3, 1) := by decide +kernel
theorem dX4_takePartsFromDrafts_37 : decode cX4_takePartsFromDrafts 37 = .ok (.invokestatic 44, 3) := by decide +kernel
theorem dX4_takePartsFromDrafts_40 : decode cX4_takePartsFromDrafts 40 = .ok (.iaload, 1) := by decide +kernel
theorem dX4_takePartsFromDrafts_41 : decode cX4_takePartsFromDrafts 41 = .ok (.goto 4, 3) := by decide +kernel
theorem dX4_takePartsFromDrafts_44 : decode cX4_takePartsFromDrafts 44 = .ok (.iconst 0, 1) := by decide +kernel
theorem dX4_takePartsFromDrafts_45 : decode cX4_takePartsFromDrafts 45 = .ok (.iastore, 1) := by decide +kernel
theorem dX4_takePartsFromDrafts_46 : decode cX4_takePartsFromDrafts 46 = .ok (.iinc 3 1, 3) := by decide +kernel
theorem dX4_takePartsFromDrafts_49 : decode cX4_takePartsFromDrafts 49 = .ok (.goto (-41), 3) := by decide +kernel
theorem dX4_takePartsFromDrafts_52 : decode cX4_takePartsFromDrafts 52 = .ok (.return_, 1) := by decide +kernel
theorem dX4_addToYear_0 : decode cX4_addToYear 0 = .ok (.iconst 0, 1) := by decide +kernel
theorem dX4_addToYear_1 : decode cX4_addToYear 1 = .ok (.istore_n 3, 1) := by decide +kernel
theorem dX4_addToYear_2 : decode cX4_addToYear 2 = .ok (.iload_n 3, 1) := by decide +kernel
theorem dX4_addToYear_3 : decode cX4_addToYear 3 = .ok (.bipush 12, 2) := by decide +kernel
theorem dX4_addToYear_5 : decode cX4_addToYear 5 = .ok (.if_icmp .ge 31, 3) := by decide +kernel
theorem dX4_addToYear_8 : decode cX4_addToYear 8 = .ok (.iload_n 3, 1) := by decide +kernel
theorem dX4_addToYear_9 : decode cX4_addToYear 9 = .ok (.aload_n 2, 1) := by decide +kernel
theorem dX4_addToYear_10 : decode cX4_addToYear 10 = .ok (.arraylength, 1) := by decide +kernel
theorem dX4_addToYear_11 : decode cX4_addToYear 11 = .ok (.if_icmp .ge 25, 3) := by decide +kernel
theorem dX4_addToYear_14 : decode cX4_addToYear 14 = .ok (.aload_n 0, 1) := by decide +kernel
theorem dX4_addToYear_15 : decode cX4_addToYear 15 = .ok (.getfield 33, 3) := by decide +kernel
theorem dX4_addToYear_18 : decode cX4_addToYear 18 = .ok (.iload_n 1, 1) := by decide +kernel
theorem dX4_addToYear_19 : decode cX4_addToYear 19 = .ok (.iload_n 3, 1) := by decide +kernel
theorem dX4_addToYear_20 : decode cX4_addToYear 20 = .ok (.invokestatic 44, 3) := by decide +kernel
theorem dX4_addToYear_23 : decode cX4_addToYear 23 = .ok (.dup2, 1) := by decide +kernel
theorem dX4_addToYear_24 : decode cX4_addToYear 24 = .ok (.iaload, 1) := by decide +kernel
theorem dX4_addToYear_25 : decode cX4_addToYear 25 = .ok (.aload_n 2, 1) := by decide +kernel
theorem dX4_addToYear_26 : decode cX4_addToYear 26 = .ok (.iload_n 3, 1) := by decide +kernel
theorem dX4_addToYear_27 : decode cX4_addToYear 27 = .ok (.iaload, 1) := by decide +kernel
theorem dX4_addToYear_28 : decode cX4_addToYear 28 = .ok (.iadd, 1) := by decide +kernel
theorem dX4_addToYear_29 : decode cX4_addToYear 29 = .ok (.iastore, 1) := by decide +kernel
theorem dX4_addToYear_30 : decode cX4_addToYear 30 = .ok (.iinc 3 1, 3) := by decide +kernel
theorem dX4_addToYear_33 : decode cX4_addToYear 33 = .ok (.goto (-31), 3) := by decide +kernel
theorem dX4_addToYear_36 : decode cX4_addToYear 36 = .ok (.return_, 1) := by decide +kernel
theorem dX4_writers_0 : decode cX4_writers 0 = .ok (.iconst 0, 1) := by decide +kernel
theorem dX4_writers_1 : decode cX4_writers 1 = .ok (.istore_n 2, 1) := by decide +kernel
theorem dX4_writers_2 : decode cX4_writers 2 = .ok (.iconst 0, 1) := by decide +kernel
theorem dX4_writers_3 : decode cX4_writers 3 = .ok (.istore_n 3, 1) := by decide +kernel
theorem dX4_writers_4 : decode cX4_writers 4 = .ok (.iload_n 3, 1) := by decide +kernel
theorem dX4_writers_5 : decode cX4_writers 5 = .ok (.iconst 4, 1) := by decide +kernel
theorem dX4_writers_6 : decode cX4_writers 6 = .ok (.if_icmp .ge 34, 3) := by decide +kernel
theorem dX4_writers_9 : decode cX4_writers 9 = .ok (.aload_n 0, 1) := by decide +kernel
theorem dX4_writers_10 : decode cX4_writers 10 = .ok (.iload_n 1, 1) := by decide +kernel
theorem dX4_writers_11 : decode cX4_writers 11 = .ok (.iload_n 2, 1) := by decide +kernel
theorem dX4_writers_12 : decode cX4_writers 12 = .ok (.invokevirtual 66, 3) := by decide +kernel
theorem dX4_writers_15 : decode cX4_writers 15 = .ok (.istore 4, 2) := by decide +kernel
theorem dX4_writers_17 : decode cX4_writers 17 = .ok (.iload_n 2, 1) := by decide +kernel
theorem dX4_writers_18 : decode cX4_writers 18 = .ok (.iload 4, 2) := by decide +kernel
theorem dX4_writers_20 : decode cX4_writers 20 = .ok (.iconst (-1), 1) := by decide +kernel
theorem dX4_writers_21 : decode cX4_writers 21 = .ok (.if_icmp .ne 7, 3) := by decide +kernel
theorem dX4_writers_24 : decode cX4_writers 24 = .ok (.iconst 0, 1) := by decide +kernel
theorem dX4_writers_25 : decode cX4_writers 25 = .ok (.goto 7, 3) := by decide +kernel
theorem dX4_writers_28 : decode cX4_writers 28 = .ok (.iconst 1, 1) := by decide +kernel
theorem dX4_writers_29 : decode cX4_writers 29 = .ok (.iload 4, 2) := by decide +kernel
theorem dX4_writers_31 : decode cX4_writers 31 = .ok (.ishl, 1) := by decide +kernel
theorem dX4_writers_32 : decode cX4_writers 32 = .ok (.ior, 1) := by decide +kernel
theorem dX4_writers_33 : decode cX4_writers 33 = .ok (.istore_n 2, 1) := by decide +kernel
theorem dX4_writers_34 : decode cX4_writers 34 = .ok (.iinc 3 1, 3) := by decide +kernel
theorem dX4_writers_37 : decode cX4_writers 37 = .ok (.goto (-33), 3) := by decide +kernel
theorem dX4_writers_40 : decode cX4_writers 40 = .ok (.iload_n 2, 1) := by decide +kernel
theorem dX4_writers_41 : decode cX4_writers 41 = .ok (.ireturn, 1) := by decide +kernel
theorem dX4_writerWithMost_0 : decode cX4_writerWithMost 0 = .ok (.iconst (-1), 1) := by decide +kernel
theorem dX4_writerWithMost_1 : decode cX4_writerWithMost 1 = .ok (.istore_n 3, 1) := by decide +kernel
theorem dX4_writerWithMost_2 : decode cX4_writerWithMost 2 = .ok (.iconst 0, 1) := by decide +kernel
theorem dX4_writerWithMost_3 : decode cX4_writerWithMost 3 = .ok (.istore 4, 2) := by decide +kernel
theorem dX4_writerWithMost_5 : decode cX4_writerWithMost 5 = .ok (.iconst 0, 1) := by decide +kernel
theorem dX4_writerWithMost_6 : decode cX4_writerWithMost 6 = .ok (.istore 5, 2) := by decide +kernel
theorem dX4_writerWithMost_8 : decode cX4_writerWithMost 8 = .ok (.iload 5, 2) := by decide +kernel
theorem dX4_writerWithMost_10 : decode cX4_writerWithMost 10 = .ok (.bipush 12, 2) := by decide +kernel
theorem dX4_writerWithMost_12 : decode cX4_writerWithMost 12 = .ok (.if_icmp .ge 50, 3) := by decide +kernel
theorem dX4_writerWithMost_15 : decode cX4_writerWithMost 15 = .ok (.aload_n 0, 1) := by decide +kernel
theorem dX4_writerWithMost_16 : decode cX4_writerWithMost 16 = .ok (.getfield 30, 3) := by decide +kernel
theorem dX4_writerWithMost_19 : decode cX4_writerWithMost 19 = .ok (.iload_n 1, 1) := by decide +kernel
theorem dX4_writerWithMost_20 : decode cX4_writerWithMost 20 = .ok (.iload 5, 2) := by decide +kernel
theorem dX4_writerWithMost_22 : decode cX4_writerWithMost 22 = .ok (.invokestatic 44, 3) := by decide +kernel
theorem dX4_writerWithMost_25 : decode cX4_writerWithMost 25 = .ok (.iaload, 1) := by decide +kernel
theorem dX4_writerWithMost_26 : decode cX4_writerWithMost 26 = .ok (.iload 4, 2) := by decide +kernel
theorem dX4_writerWithMost_28 : decode cX4_writerWithMost 28 = .ok (.if_icmp .le 28, 3) := by decide +kernel
theorem dX4_writerWithMost_31 : decode cX4_writerWithMost 31 = .ok (.iload_n 2, 1) := by decide +kernel
theorem dX4_writerWithMost_32 : decode cX4_writerWithMost 32 = .ok (.iload 5, 2) := by decide +kernel
theorem dX4_writerWithMost_34 : decode cX4_writerWithMost 34 = .ok (.invokestatic 62, 3) := by decide +kernel
theorem dX4_writerWithMost_37 : decode cX4_writerWithMost 37 = .ok (.ifCond .ne 19, 3) := by decide +kernel
theorem dX4_writerWithMost_40 : decode cX4_writerWithMost 40 = .ok (.iload 5, 2) := by decide +kernel
theorem dX4_writerWithMost_42 : decode cX4_writerWithMost 42 = .ok (.istore_n 3, 1) := by decide +kernel
theorem dX4_writerWithMost_43 : decode cX4_writerWithMost 43 = .ok (.aload_n 0, 1) := by decide +kernel
theorem dX4_writerWithMost_44 : decode cX4_writerWithMost 44 = .ok (.getfield 30, 3) := by decide +kernel
theorem dX4_writerWithMost_47 : decode cX4_writerWithMost 47 = .ok (.iload_n 1, 1) := by decide +kernel
theorem dX4_writerWithMost_48 : decode cX4_writerWithMost 48 = .ok (.iload 5, 2) := by decide +kernel
theorem dX4_writerWithMost_50 : decode cX4_writerWithMost 50 = .ok (.invokestatic 44, 3) := by decide +kernel
theorem dX4_writerWithMost_53 : decode cX4_writerWithMost 53 = .ok (.iaload, 1) := by decide +kernel
theorem dX4_writerWithMost_54 : decode cX4_writerWithMost 54 = .ok (.istore 4, 2) := by decide +kernel
theorem dX4_writerWithMost_56 : decode cX4_writerWithMost 56 = .ok (.iinc 5 1, 3) := by decide +kernel
theorem dX4_writerWithMost_59 : decode cX4_writerWithMost 59 = .ok (.goto (-51), 3) := by decide +kernel
theorem dX4_writerWithMost_62 : decode cX4_writerWithMost 62 = .ok (.iload_n 3, 1) := by decide +kernel
theorem dX4_writerWithMost_63 : decode cX4_writerWithMost 63 = .ok (.ireturn, 1) := by decide +kernel
end
section
theorem dX5_init_0 : decode cX5_init 0 = .ok (.aload_n 0, 1) := by decide +kernel
theorem dX5_init_1 : decode cX5_init 1 = .ok (.invokespecial 3, 3) := by decide +kernel
theorem dX5_init_4 : decode cX5_init 4 = .ok (.aload_n 0, 1) := by decide +kernel
theorem dX5_init_5 : decode cX5_init 5 = .ok (.new 9, 3) := by decide +kernel
theorem dX5_init_8 : decode cX5_init 8 = .ok (.dup, 1) := by decide +kernel
theorem dX5_init_9 : decode cX5_init 9 = .ok (.invokespecial 11, 3) := by decide +kernel
theorem dX5_init_12 : decode cX5_init 12 = .ok (.putfield 12, 3) := by decide +kernel
theorem dX5_init_15 : decode cX5_init 15 = .ok (.aload_n 0, 1) := by decide +kernel
theorem dX5_init_16 : decode cX5_init 16 = .ok (.new 18, 3) := by decide +kernel
theorem dX5_init_19 : decode cX5_init 19 = .ok (.dup, 1) := by decide +kernel
theorem dX5_init_20 : decode cX5_init 20 = .ok (.invokespecial 20, 3) := by decide +kernel
theorem dX5_init_23 : decode cX5_init 23 = .ok (.putfield 21, 3) := by decide +kernel
theorem dX5_init_26 : decode cX5_init 26 = .ok (.aload_n 0, 1) := by decide +kernel
theorem dX5_init_27 : decode cX5_init 27 = .ok (.getstatic 25, 3) := by decide +kernel
theorem dX5_init_30 : decode cX5_init 30 = .ok (.invokevirtual 29, 3) := by decide +kernel
theorem dX5_init_33 : decode cX5_init 33 = .ok (.checkcast 30, 3) := by decide +kernel
theorem dX5_init_36 : decode cX5_init 36 = .ok (.putfield 34, 3) := by decide +kernel
theorem dX5_init_39 : decode cX5_init 39 = .ok (.return_, 1) := by decide +kernel
theorem dX5_copyFrom_0 : decode cX5_copyFrom 0 = .ok (.aload_n 0, 1) := by decide +kernel
theorem dX5_copyFrom_1 : decode cX5_copyFrom 1 = .ok (.getfield 12, 3) := by decide +kernel
theorem dX5_copyFrom_4 : decode cX5_copyFrom 4 = .ok (.aload_n 1, 1) := by decide +kernel
theorem dX5_copyFrom_5 : decode cX5_copyFrom 5 = .ok (.getfield 12, 3) := by decide +kernel
theorem dX5_copyFrom_8 : decode cX5_copyFrom 8 = .ok (.invokevirtual 37, 3) := by decide +kernel
theorem dX5_copyFrom_11 : decode cX5_copyFrom 11 = .ok (.aload_n 0, 1) := by decide +kernel
theorem dX5_copyFrom_12 : decode cX5_copyFrom 12 = .ok (.getfield 21, 3) := by decide +kernel
theorem dX5_copyFrom_15 : decode cX5_copyFrom 15 = .ok (.aload_n 1, 1) := by decide +kernel
theorem dX5_copyFrom_16 : decode cX5_copyFrom 16 = .ok (.getfield 21, 3) := by decide +kernel
theorem dX5_copyFrom_19 : decode cX5_copyFrom 19 = .ok (.invokevirtual 41, 3) := by decide +kernel
theorem dX5_copyFrom_22 : decode cX5_copyFrom 22 = .ok (.aload_n 1, 1) := by decide +kernel
theorem dX5_copyFrom_23 : decode cX5_copyFrom 23 = .ok (.getfield 34, 3) := by decide +kernel
theorem dX5_copyFrom_26 : decode cX5_copyFrom 26 = .ok (.aload_n 0, 1) := by decide +kernel
theorem dX5_copyFrom_27 : decode cX5_copyFrom 27 = .ok (.getfield 34, 3) := by decide +kernel
theorem dX5_copyFrom_30 : decode cX5_copyFrom 30 = .ok (.invokestatic 44, 3) := by decide +kernel
theorem dX5_copyFrom_33 : decode cX5_copyFrom 33 = .ok (.aload_n 0, 1) := by decide +kernel
theorem dX5_copyFrom_34 : decode cX5_copyFrom 34 = .ok (.aload_n 1, 1) := by decide +kernel
theorem dX5_copyFrom_35 : decode cX5_copyFrom 35 = .ok (.getfield 48, 3) := by decide +kernel
theorem dX5_copyFrom_38 : decode cX5_copyFrom 38 = .ok (.putfield 48, 3) := by decide +kernel
theorem dX5_copyFrom_41 : decode cX5_copyFrom 41 = .ok (.aload_n 0, 1) := by decide +kernel
theorem dX5_copyFrom_42 : decode cX5_copyFrom 42 = .ok (.aload_n 1, 1) := by decide +kernel
theorem dX5_copyFrom_43 : decode cX5_copyFrom 43 = .ok (.getfield 52, 3) := by decide +kernel
theorem dX5_copyFrom_46 : decode cX5_copyFrom 46 = .ok (.putfield 52, 3) := by decide +kernel
theorem dX5_copyFrom_49 : decode cX5_copyFrom 49 = .ok (.aload_n 0, 1) := by decide +kernel
theorem dX5_copyFrom_50 : decode cX5_copyFrom 50 = .ok (.aload_n 1, 1) := by decide +kernel
theorem dX5_copyFrom_51 : decode cX5_copyFrom 51 = .ok (.getfield 55, 3) := by decide +kernel
theorem dX5_copyFrom_54 : decode cX5_copyFrom 54 = .ok (.putfield 55, 3) := by decide +kernel
theorem dX5_copyFrom_57 : decode cX5_copyFrom 57 = .ok (.aload_n 0, 1) := by decide +kernel
theorem dX5_copyFrom_58 : decode cX5_copyFrom 58 = .ok (.aload_n 1, 1) := by decide +kernel
theorem dX5_copyFrom_59 : decode cX5_copyFrom 59 = .ok (.getfield 58, 3) := by decide +kernel
theorem dX5_copyFrom_62 : decode cX5_copyFrom 62 = .ok (.putfield 58, 3) := by decide +kernel
theorem dX5_copyFrom_65 : decode cX5_copyFrom 65 = .ok (.aload_n 0, 1) := by decide +kernel
theorem dX5_copyFrom_66 : decode cX5_copyFrom 66 = .ok (.aload_n 1, 1) := by decide +kernel
theorem dX5_copyFrom_67 : decode cX5_copyFrom 67 = .ok (.getfield 61, 3) := by decide +kernel
theorem dX5_copyFrom_70 : decode cX5_copyFrom 70 = .ok (.putfield 61, 3) := by decide +kernel
theorem dX5_copyFrom_73 : decode cX5_copyFrom 73 = .ok (.return_, 1) := by decide +kernel
theorem dX5_killFee_0 : decode cX5_killFee 0 = .ok (.aload_n 0, 1) := by decide +kernel
theorem dX5_killFee_1 : decode cX5_killFee 1 = .ok (.getfield 21, 3) := by decide +kernel
theorem dX5_killFee_4 : decode cX5_killFee 4 = .ok (.getfield 64, 3) := by decide +kernel
theorem dX5_killFee_7 : decode cX5_killFee 7 = .ok (.iload_n 1, 1) := by decide +kernel
theorem dX5_killFee_8 : decode cX5_killFee 8 = .ok (.iaload, 1) := by decide +kernel
theorem dX5_killFee_9 : decode cX5_killFee 9 = .ok (.istore_n 2, 1) := by decide +kernel
theorem dX5_killFee_10 : decode cX5_killFee 10 = .ok (.iload_n 2, 1) := by decide +kernel
theorem dX5_killFee_11 : decode cX5_killFee 11 = .ok (.ifCond .lt 8, 3) := by decide +kernel
theorem dX5_killFee_14 : decode cX5_killFee 14 = .ok (.iload_n 2, 1) := by decide +kernel
theorem dX5_killFee_15 : decode cX5_killFee 15 = .ok (.iconst 2, 1) := by decide +kernel
theorem dX5_killFee_16 : decode cX5_killFee 16 = .ok (.if_icmp .le 5, 3) := by decide +kernel
theorem dX5_killFee_19 : decode cX5_killFee 19 = .ok (.iconst 0, 1) := by decide +kernel
theorem dX5_killFee_20 : decode cX5_killFee 20 = .ok (.ireturn, 1) := by decide +kernel
theorem dX5_killFee_21 : decode cX5_killFee 21 = .ok (.aload_n 0, 1) := by decide +kernel
theorem dX5_killFee_22 : decode cX5_killFee 22 = .ok (.getfield 21, 3) := by decide +kernel
theorem dX5_killFee_25 : decode cX5_killFee 25 = .ok (.getfield 67, 3) := by decide +kernel
theorem dX5_killFee_28 : decode cX5_killFee 28 = .ok (.iload_n 1, 1) := by decide +kernel
theorem dX5_killFee_29 : decode cX5_killFee 29 = .ok (.iaload, 1) := by decide +kernel
theorem dX5_killFee_30 : decode cX5_killFee 30 = .ok (.aload_n 0, 1) := by decide +kernel
theorem dX5_killFee_31 : decode cX5_killFee 31 = .ok (.getfield 34, 3) := by decide +kernel
theorem dX5_killFee_34 : decode cX5_killFee 34 = .ok (.iconst 3, 1) := by decide +kernel
theorem dX5_killFee_35 : decode cX5_killFee 35 = .ok (.iload_n 2, 1) := by decide +kernel
theorem dX5_killFee_36 : decode cX5_killFee 36 = .ok (.iadd, 1) := by decide +kernel
theorem dX5_killFee_37 : decode cX5_killFee 37 = .ok (.iaload, 1) := by decide +kernel
theorem dX5_killFee_38 : decode cX5_killFee 38 = .ok (.imul, 1) := by decide +kernel
theorem dX5_killFee_39 : decode cX5_killFee 39 = .ok (.bipush 100, 2) := by decide +kernel
theorem dX5_killFee_41 : decode cX5_killFee 41 = .ok (.idiv, 1) := by decide +kernel
theorem dX5_killFee_42 : decode cX5_killFee 42 = .ok (.ireturn, 1) := by decide +kernel
end
section
theorem dX6_init_0 : decode cX6_init 0 = .ok (.aload_n 0, 1) := by decide +kernel
theorem dX6_init_1 : decode cX6_init 1 = .ok (.invokespecial 1, 3) := by decide +kernel
theorem dX6_init_4 : decode cX6_init 4 = .ok (.aload_n 0, 1) := by decide +kernel
theorem dX6_init_5 : decode cX6_init 5 = .ok (.bipush 7, 2) := by decide +kernel
theorem dX6_init_7 : decode cX6_init 7 = .ok (.anewarray 9, 3) := by decide +kernel
theorem dX6_init_10 : decode cX6_init 10 = .ok (.putfield 11, 3) := by decide +kernel
theorem dX6_init_13 : decode cX6_init 13 = .ok (.aload_n 0, 1) := by decide +kernel
theorem dX6_init_14 : decode cX6_init 14 = .ok (.new 15, 3) := by decide +kernel
theorem dX6_init_17 : decode cX6_init 17 = .ok (.dup, 1) := by decide +kernel
theorem dX6_init_18 : decode cX6_init 18 = .ok (.invokespecial 17, 3) := by decide +kernel
theorem dX6_init_21 : decode cX6_init 21 = .ok (.putfield 18, 3) := by decide +kernel
theorem dX6_init_24 : decode cX6_init 24 = .ok (.aload_n 0, 1) := by decide +kernel
theorem dX6_init_25 : decode cX6_init 25 = .ok (.new 22, 3) := by decide +kernel
theorem dX6_init_28 : decode cX6_init 28 = .ok (.dup, 1) := by decide +kernel
theorem dX6_init_29 : decode cX6_init 29 = .ok (.invokespecial 24, 3) := by decide +kernel
theorem dX6_init_32 : decode cX6_init 32 = .ok (.putfield 25, 3) := by decide +kernel
theorem dX6_init_35 : decode cX6_init 35 = .ok (.aload_n 0, 1) := by decide +kernel
theorem dX6_init_36 : decode cX6_init 36 = .ok (.new 29, 3) := by decide +kernel
theorem dX6_init_39 : decode cX6_init 39 = .ok (.dup, 1) := by decide +kernel
theorem dX6_init_40 : decode cX6_init 40 = .ok (.invokespecial 31, 3) := by decide +kernel
theorem dX6_init_43 : decode cX6_init 43 = .ok (.putfield 32, 3) := by decide +kernel
theorem dX6_init_46 : decode cX6_init 46 = .ok (.aload_n 0, 1) := by decide +kernel
theorem dX6_init_47 : decode cX6_init 47 = .ok (.bipush 12, 2) := by decide +kernel
theorem dX6_init_49 : decode cX6_init 49 = .ok (.newarray .int, 2) := by decide +kernel
theorem dX6_init_51 : decode cX6_init 51 = .ok (.putfield 36, 3) := by decide +kernel
theorem dX6_init_54 : decode cX6_init 54 = .ok (.aload_n 0, 1) := by decide +kernel
theorem dX6_init_55 : decode cX6_init 55 = .ok (.bipush 12, 2) := by decide +kernel
theorem dX6_init_57 : decode cX6_init 57 = .ok (.newarray .int, 2) := by decide +kernel
theorem dX6_init_59 : decode cX6_init 59 = .ok (.putfield 40, 3) := by decide +kernel
theorem dX6_init_62 : decode cX6_init 62 = .ok (.iconst 0, 1) := by decide +kernel
theorem dX6_init_63 : decode cX6_init 63 = .ok (.istore_n 1, 1) := by decide +kernel
theorem dX6_init_64 : decode cX6_init 64 = .ok (.iload_n 1, 1) := by decide +kernel
theorem dX6_init_65 : decode cX6_init 65 = .ok (.aload_n 0, 1) := by decide +kernel
theorem dX6_init_66 : decode cX6_init 66 = .ok (.getfield 11, 3) := by decide +kernel
theorem dX6_init_69 : decode cX6_init 69 = .ok (.arraylength, 1) := by decide +kernel
theorem dX6_init_70 : decode cX6_init 70 = .ok (.if_icmp .ge 22, 3) := by decide +kernel
theorem dX6_init_73 : decode cX6_init 73 = .ok (.aload_n 0, 1) := by decide +kernel
theorem dX6_init_74 : decode cX6_init 74 = .ok (.getfield 11, 3) := by decide +kernel
theorem dX6_init_77 : decode cX6_init 77 = .ok (.iload_n 1, 1) := by decide +kernel
theorem dX6_init_78 : decode cX6_init 78 = .ok (.new 9, 3) := by decide +kernel
theorem dX6_init_81 : decode cX6_init 81 = .ok (.dup, 1) := by decide +kernel
theorem dX6_init_82 : decode cX6_init 82 = .ok (.invokespecial 43, 3) := by decide +kernel
theorem dX6_init_85 : decode cX6_init 85 = .ok (.aastore, 1) := by decide +kernel
theorem dX6_init_86 : decode cX6_init 86 = .ok (.iinc 1 1, 3) := by decide +kernel
theorem dX6_init_89 : decode cX6_init 89 = .ok (.goto (-25), 3) := by decide +kernel
theorem dX6_init_92 : decode cX6_init 92 = .ok (.aload_n 0, 1) := by decide +kernel
theorem dX6_init_93 : decode cX6_init 93 = .ok (.aload_n 0, 1) := by decide +kernel
theorem dX6_init_94 : decode cX6_init 94 = .ok (.getfield 11, 3) := by decide +kernel
theorem dX6_init_97 : decode cX6_init 97 = .ok (.iconst 0, 1) := by decide +kernel
theorem dX6_init_98 : decode cX6_init 98 = .ok (.aaload, 1) := by decide +kernel
theorem dX6_init_99 : decode cX6_init 99 = .ok (.putfield 44, 3) := by decide +kernel
theorem dX6_init_102 : decode cX6_init 102 = .ok (.return_, 1) := by decide +kernel
theorem dX6_addPen_0 : decode cX6_addPen 0 = .ok (.aload_n 0, 1) := by decide +kernel
theorem dX6_addPen_1 : decode cX6_addPen 1 = .ok (.getfield 44, 3) := by decide +kernel
theorem dX6_addPen_4 : decode cX6_addPen 4 = .ok (.getfield 48, 3) := by decide +kernel
theorem dX6_addPen_7 : decode cX6_addPen 7 = .ok (.getfield 52, 3) := by decide +kernel
theorem dX6_addPen_10 : decode cX6_addPen 10 = .ok (.bipush 12, 2) := by decide +kernel
theorem dX6_addPen_12 : decode cX6_addPen 12 = .ok (.if_icmp .lt 13, 3) := by decide +kernel
theorem dX6_addPen_15 : decode cX6_addPen 15 = .ok (.new 58, 3) := by decide +kernel
theorem dX6_addPen_18 : decode cX6_addPen 18 = .ok (.dup, 1) := by decide +kernel
theorem dX6_addPen_19 : decode cX6_addPen 19 = .ok (.ldc 60, 2) := by decide +kernel
theorem dX6_addPen_21 : decode cX6_addPen 21 = .ok (.invokespecial 62, 3) := by decide +kernel
theorem dX6_addPen_24 : decode cX6_addPen 24 = .ok (.athrow, 1) := by decide +kernel
theorem dX6_addPen_25 : decode cX6_addPen 25 = .ok (.aload_n 0, 1) := by decide +kernel
theorem dX6_addPen_26 : decode cX6_addPen 26 = .ok (.invokevirtual 65, 3) := by decide +kernel
theorem dX6_addPen_29 : decode cX6_addPen 29 = .ok (.aload_n 0, 1) := by decide +kernel
theorem dX6_addPen_30 : decode cX6_addPen 30 = .ok (.getfield 44, 3) := by decide +kernel
theorem dX6_addPen_33 : decode cX6_addPen 33 = .ok (.getfield 48, 3) := by decide +kernel
theorem dX6_addPen_36 : decode cX6_addPen 36 = .ok (.getfield 52, 3) := by decide +kernel
theorem dX6_addPen_39 : decode cX6_addPen 39 = .ok (.istore_n 1, 1) := by decide +kernel
theorem dX6_addPen_40 : decode cX6_addPen 40 = .ok (.aload_n 0, 1) := by decide +kernel
theorem dX6_addPen_41 : decode cX6_addPen 41 = .ok (.getfield 44, 3) := by decide +kernel
theorem dX6_addPen_44 : decode cX6_addPen 44 = .ok (.getfield 48, 3) := by decide +kernel
theorem dX6_addPen_47 : decode cX6_addPen 47 = .ok (.getfield 68, 3) := by decide +kernel
theorem dX6_addPen_50 : decode cX6_addPen 50 = .ok (.iload_n 1, 1) := by decide +kernel
theorem dX6_addPen_51 : decode cX6_addPen 51 = .ok (.iload_n 1, 1) := by decide +kernel
theorem dX6_addPen_52 : decode cX6_addPen 52 = .ok (.iastore, 1) := by decide +kernel
theorem dX6_addPen_53 : decode cX6_addPen 53 = .ok (.aload_n 0, 1) := by decide +kernel
theorem dX6_addPen_54 : decode cX6_addPen 54 = .ok (.getfield 44, 3) := by decide +kernel
theorem dX6_addPen_57 : decode cX6_addPen 57 = .ok (.getfield 48, 3) := by decide +kernel
theorem dX6_addPen_60 : decode cX6_addPen 60 = .ok (.iload_n 1, 1) := by decide +kernel
theorem dX6_addPen_61 : decode cX6_addPen 61 = .ok (.iconst 1, 1) := by decide +kernel
theorem dX6_addPen_62 : decode cX6_addPen 62 = .ok (.iadd, 1) := by decide +kernel
theorem dX6_addPen_63 : decode cX6_addPen 63 = .ok (.putfield 52, 3) := by decide +kernel
theorem dX6_addPen_66 : decode cX6_addPen 66 = .ok (.iload_n 1, 1) := by decide +kernel
theorem dX6_addPen_67 : decode cX6_addPen 67 = .ok (.ireturn, 1) := by decide +kernel
theorem dX6_sell_0 : decode cX6_sell 0 = .ok (.aload_n 0, 1) := by decide +kernel
theorem dX6_sell_1 : decode cX6_sell 1 = .ok (.iload_n 1, 1) := by decide +kernel
theorem dX6_sell_2 : decode cX6_sell 2 = .ok (.invokevirtual 71, 3) := by decide +kernel
theorem dX6_sell_5 : decode cX6_sell 5 = .ok (.aload_n 0, 1) := by decide +kernel
theorem dX6_sell_6 : decode cX6_sell 6 = .ok (.iload_n 2, 1) := by decide +kernel
theorem dX6_sell_7 : decode cX6_sell 7 = .ok (.invokevirtual 71, 3) := by decide +kernel
theorem dX6_sell_10 : decode cX6_sell 10 = .ok (.iload_n 3, 1) := by decide +kernel
theorem dX6_sell_11 : decode cX6_sell 11 = .ok (.iconst 0, 1) := by decide +kernel
theorem dX6_sell_12 : decode cX6_sell 12 = .ok (.ldc 75, 2) := by decide +kernel
theorem dX6_sell_14 : decode cX6_sell 14 = .ok (.invokestatic 76, 3) := by decide +kernel
theorem dX6_sell_17 : decode cX6_sell 17 = .ok (.aload_n 0, 1) := by decide +kernel
theorem dX6_sell_18 : decode cX6_sell 18 = .ok (.getfield 44, 3) := by decide +kernel
theorem dX6_sell_21 : decode cX6_sell 21 = .ok (.getfield 48, 3) := by decide +kernel
theorem dX6_sell_24 : decode cX6_sell 24 = .ok (.getfield 68, 3) := by decide +kernel
theorem dX6_sell_27 : decode cX6_sell 27 = .ok (.iload_n 1, 1) := by decide +kernel
theorem dX6_sell_28 : decode cX6_sell 28 = .ok (.iaload, 1) := by decide +kernel
theorem dX6_sell_29 : decode cX6_sell 29 = .ok (.istore 4, 2) := by decide +kernel
theorem dX6_sell_31 : decode cX6_sell 31 = .ok (.iload 4, 2) := by decide +kernel
theorem dX6_sell_33 : decode cX6_sell 33 = .ok (.iload_n 2, 1) := by decide +kernel
theorem dX6_sell_34 : decode cX6_sell 34 = .ok (.if_icmp .ne 13, 3) := by decide +kernel
theorem dX6_sell_37 : decode cX6_sell 37 = .ok (.new 80, 3) := by decide +kernel
theorem dX6_sell_40 : decode cX6_sell 40 = .ok (.dup, 1) := by decide +kernel
theorem dX6_sell_41 : decode cX6_sell 41 = .ok (.ldc 82, 2) := by decide +kernel
theorem dX6_sell_43 : decode cX6_sell 43 = .ok (.invokespecial 84, 3) := by decide +kernel
theorem dX6_sell_46 : decode cX6_sell 46 = .ok (.athrow, 1) := by decide +kernel
theorem dX6_sell_47 : decode cX6_sell 47 = .ok (.aload_n 0, 1) := by decide +kernel
theorem dX6_sell_48 : decode cX6_sell 48 = .ok (.getfield 44, 3) := by decide +kernel
theorem dX6_sell_51 : decode cX6_sell 51 = .ok (.getfield 48, 3) := by decide +kernel
theorem dX6_sell_54 : decode cX6_sell 54 = .ok (.getfield 85, 3) := by decide +kernel
theorem dX6_sell_57 : decode cX6_sell 57 = .ok (.iload_n 2, 1) := by decide +kernel
theorem dX6_sell_58 : decode cX6_sell 58 = .ok (.iaload, 1) := by decide +kernel
theorem dX6_sell_59 : decode cX6_sell 59 = .ok (.iload_n 3, 1) := by decide +kernel
theorem dX6_sell_60 : decode cX6_sell 60 = .ok (.invokestatic 88, 3) := by decide +kernel
theorem dX6_sell_63 : decode cX6_sell 63 = .ok (.aload_n 0, 1) := by decide +kernel
theorem dX6_sell_64 : decode cX6_sell 64 = .ok (.invokevirtual 65, 3) := by decide +kernel
theorem dX6_sell_67 : decode cX6_sell 67 = .ok (.aload_n 0, 1) := by decide +kernel
theorem dX6_sell_68 : decode cX6_sell 68 = .ok (.getfield 44, 3) := by decide +kernel
theorem dX6_sell_71 : decode cX6_sell 71 = .ok (.getfield 48, 3) := by decide +kernel
theorem dX6_sell_74 : decode cX6_sell 74 = .ok (.iload_n 1, 1) := by decide +kernel
theorem dX6_sell_75 : decode cX6_sell 75 = .ok (.iload_n 2, 1) := by decide +kernel
theorem dX6_sell_76 : decode cX6_sell 76 = .ok (.iload_n 3, 1) := by decide +kernel
theorem dX6_sell_77 : decode cX6_sell 77 = .ok (.invokevirtual 92, 3) := by decide +kernel
theorem dX6_sell_80 : decode cX6_sell 80 = .ok (.iload 4, 2) := by decide +kernel
theorem dX6_sell_82 : decode cX6_sell 82 = .ok (.ireturn, 1) := by decide +kernel
theorem dX6_buyBack_0 : decode cX6_buyBack 0 = .ok (.aload_n 0, 1) := by decide +kernel
theorem dX6_buyBack_1 : decode cX6_buyBack 1 = .ok (.iload_n 1, 1) := by decide +kernel
theorem dX6_buyBack_2 : decode cX6_buyBack 2 = .ok (.invokevirtual 71, 3) := by decide +kernel
theorem dX6_buyBack_5 : decode cX6_buyBack 5 = .ok (.aload_n 0, 1) := by decide +kernel
theorem dX6_buyBack_6 : decode cX6_buyBack 6 = .ok (.getfield 44, 3) := by decide +kernel
theorem dX6_buyBack_9 : decode cX6_buyBack 9 = .ok (.getfield 48, 3) := by decide +kernel
theorem dX6_buyBack_12 : decode cX6_buyBack 12 = .ok (.getfield 68, 3) := by decide +kernel
theorem dX6_buyBack_15 : decode cX6_buyBack 15 = .ok (.iload_n 1, 1) := by decide +kernel
theorem dX6_buyBack_16 : decode cX6_buyBack 16 = .ok (.iaload, 1) := by decide +kernel
theorem dX6_buyBack_17 : decode cX6_buyBack 17 = .ok (.iload_n 1, 1) := by decide +kernel
theorem dX6_buyBack_18 : decode cX6_buyBack 18 = .ok (.if_icmp .ne 13, 3) := by decide +kernel
theorem dX6_buyBack_21 : decode cX6_buyBack 21 = .ok (.new 58, 3) := by decide +kernel
theorem dX6_buyBack_24 : decode cX6_buyBack 24 = .ok (.dup, 1) := by decide +kernel
theorem dX6_buyBack_25 : decode cX6_buyBack 25 = .ok (.ldc 95, 2) := by decide +kernel
theorem dX6_buyBack_27 : decode cX6_buyBack 27 = .ok (.invokespecial 62, 3) := by decide +kernel
theorem dX6_buyBack_30 : decode cX6_buyBack 30 = .ok (.athrow, 1) := by decide +kernel
theorem dX6_buyBack_31 : decode cX6_buyBack 31 = .ok (.aload_n 0, 1) := by decide +kernel
theorem dX6_buyBack_32 : decode cX6_buyBack 32 = .ok (.getfield 44, 3) := by decide +kernel
theorem dX6_buyBack_35 : decode cX6_buyBack 35 = .ok (.getfield 48, 3) := by decide +kernel
theorem dX6_buyBack_38 : decode cX6_buyBack 38 = .ok (.getfield 97, 3) := by decide +kernel
theorem dX6_buyBack_41 : decode cX6_buyBack 41 = .ok (.iload_n 1, 1) := by decide +kernel
theorem dX6_buyBack_42 : decode cX6_buyBack 42 = .ok (.iaload, 1) := by decide +kernel
theorem dX6_buyBack_43 : decode cX6_buyBack 43 = .ok (.aload_n 0, 1) := by decide +kernel
theorem dX6_buyBack_44 : decode cX6_buyBack 44 = .ok (.getfield 44, 3) := by decide +kernel
theorem dX6_buyBack_47 : decode cX6_buyBack 47 = .ok (.getfield 48, 3) := by decide +kernel
theorem dX6_buyBack_50 : decode cX6_buyBack 50 = .ok (.getfield 97, 3) := by decide +kernel
theorem dX6_buyBack_53 : decode cX6_buyBack 53 = .ok (.iload_n 1, 1) := by decide +kernel
theorem dX6_buyBack_54 : decode cX6_buyBack 54 = .ok (.iaload, 1) := by decide +kernel
theorem dX6_buyBack_55 : decode cX6_buyBack 55 = .ok (.bipush 10, 2) := by decide +kernel
theorem dX6_buyBack_57 : decode cX6_buyBack 57 = .ok (.idiv, 1) := by decide +kernel
theorem dX6_buyBack_58 : decode cX6_buyBack 58 = .ok (.iadd, 1) := by decide +kernel
theorem dX6_buyBack_59 : decode cX6_buyBack 59 = .ok (.istore_n 2, 1) := by decide +kernel
theorem dX6_buyBack_60 : decode cX6_buyBack 60 = .ok (.aload_n 0, 1) := by decide +kernel
theorem dX6_buyBack_61 : decode cX6_buyBack 61 = .ok (.getfield 44, 3) := by decide +kernel
theorem dX6_buyBack_64 : decode cX6_buyBack 64 = .ok (.getfield 48, 3) := by decide +kernel
theorem dX6_buyBack_67 : decode cX6_buyBack 67 = .ok (.getfield 85, 3) := by decide +kernel
theorem dX6_buyBack_70 : decode cX6_buyBack 70 = .ok (.iload_n 1, 1) := by decide +kernel
theorem dX6_buyBack_71 : decode cX6_buyBack 71 = .ok (.iaload, 1) := by decide +kernel
theorem dX6_buyBack_72 : decode cX6_buyBack 72 = .ok (.iload_n 2, 1) := by decide +kernel
theorem dX6_buyBack_73 : decode cX6_buyBack 73 = .ok (.invokestatic 88, 3) := by decide +kernel
theorem dX6_buyBack_76 : decode cX6_buyBack 76 = .ok (.aload_n 0, 1) := by decide +kernel
theorem dX6_buyBack_77 : decode cX6_buyBack 77 = .ok (.invokevirtual 65, 3) := by decide +kernel
theorem dX6_buyBack_80 : decode cX6_buyBack 80 = .ok (.aload_n 0, 1) := by decide +kernel
theorem dX6_buyBack_81 : decode cX6_buyBack 81 = .ok (.getfield 44, 3) := by decide +kernel
theorem dX6_buyBack_84 : decode cX6_buyBack 84 = .ok (.getfield 48, 3) := by decide +kernel
theorem dX6_buyBack_87 : decode cX6_buyBack 87 = .ok (.iload_n 1, 1) := by decide +kernel
theorem dX6_buyBack_88 : decode cX6_buyBack 88 = .ok (.iload_n 1, 1) := by decide +kernel
theorem dX6_buyBack_89 : decode cX6_buyBack 89 = .ok (.iload_n 2, 1) := by decide +kernel
theorem dX6_buyBack_90 : decode cX6_buyBack 90 = .ok (.invokevirtual 92, 3) := by decide +kernel
theorem dX6_buyBack_93 : decode cX6_buyBack 93 = .ok (.iload_n 2, 1) := by decide +kernel
theorem dX6_buyBack_94 : decode cX6_buyBack 94 = .ok (.ireturn, 1) := by decide +kernel
theorem dX6_advance_0 : decode cX6_advance 0 = .ok (.aload_n 0, 1) := by decide +kernel
theorem dX6_advance_1 : decode cX6_advance 1 = .ok (.iload_n 1, 1) := by decide +kernel
theorem dX6_advance_2 : decode cX6_advance 2 = .ok (.invokevirtual 71, 3) := by decide +kernel
theorem dX6_advance_5 : decode cX6_advance 5 = .ok (.iload_n 2, 1) := by decide +kernel
theorem dX6_advance_6 : decode cX6_advance 6 = .ok (.iconst 1, 1) := by decide +kernel
theorem dX6_advance_7 : decode cX6_advance 7 = .ok (.ldc 75, 2) := by decide +kernel
theorem dX6_advance_9 : decode cX6_advance 9 = .ok (.invokestatic 76, 3) := by decide +kernel
theorem dX6_advance_12 : decode cX6_advance 12 = .ok (.aload_n 0, 1) := by decide +kernel
theorem dX6_advance_13 : decode cX6_advance 13 = .ok (.getfield 44, 3) := by decide +kernel
theorem dX6_advance_16 : decode cX6_advance 16 = .ok (.getfield 100, 3) := by decide +kernel
theorem dX6_advance_19 : decode cX6_advance 19 = .ok (.iload_n 2, 1) := by decide +kernel
theorem dX6_advance_20 : decode cX6_advance 20 = .ok (.invokestatic 88, 3) := by decide +kernel
theorem dX6_advance_23 : decode cX6_advance 23 = .ok (.aload_n 0, 1) := by decide +kernel
theorem dX6_advance_24 : decode cX6_advance 24 = .ok (.invokevirtual 65, 3) := by decide +kernel
theorem dX6_advance_27 : decode cX6_advance 27 = .ok (.aload_n 0, 1) := by decide +kernel
theorem dX6_advance_28 : decode cX6_advance 28 = .ok (.getfield 44, 3) := by decide +kernel
theorem dX6_advance_31 : decode cX6_advance 31 = .ok (.dup, 1) := by decide +kernel
theorem dX6_advance_32 : decode cX6_advance 32 = .ok (.getfield 100, 3) := by decide +kernel
theorem dX6_advance_35 : decode cX6_advance 35 = .ok (.iload_n 2, 1) := by decide +kernel
theorem dX6_advance_36 : decode cX6_advance 36 = .ok (.isub, 1) := by decide +kernel
theorem dX6_advance_37 : decode cX6_advance 37 = .ok (.putfield 100, 3) := by decide +kernel
theorem dX6_advance_40 : decode cX6_advance 40 = .ok (.aload_n 0, 1) := by decide +kernel
theorem dX6_advance_41 : decode cX6_advance 41 = .ok (.getfield 44, 3) := by decide +kernel
theorem dX6_advance_44 : decode cX6_advance 44 = .ok (.getfield 48, 3) := by decide +kernel
theorem dX6_advance_47 : decode cX6_advance 47 = .ok (.getfield 85, 3) := by decide +kernel
theorem dX6_advance_50 : decode cX6_advance 50 = .ok (.iload_n 1, 1) := by decide +kernel
theorem dX6_advance_51 : decode cX6_advance 51 = .ok (.dup2, 1) := by decide +kernel
theorem dX6_advance_52 : decode cX6_advance 52 = .ok (.iaload, 1) := by decide +kernel
theorem dX6_advance_53 : decode cX6_advance 53 = .ok (.iload_n 2, 1) := by decide +kernel
theorem dX6_advance_54 : decode cX6_advance 54 = .ok (.iadd, 1) := by decide +kernel
theorem dX6_advance_55 : decode cX6_advance 55 = .ok (.iastore, 1) := by decide +kernel
theorem dX6_advance_56 : decode cX6_advance 56 = .ok (.aload_n 0, 1) := by decide +kernel
theorem dX6_advance_57 : decode cX6_advance 57 = .ok (.getfield 44, 3) := by decide +kernel
theorem dX6_advance_60 : decode cX6_advance 60 = .ok (.getfield 48, 3) := by decide +kernel
theorem dX6_advance_63 : decode cX6_advance 63 = .ok (.getfield 103, 3) := by decide +kernel
theorem dX6_advance_66 : decode cX6_advance 66 = .ok (.iload_n 1, 1) := by decide +kernel
theorem dX6_advance_67 : decode cX6_advance 67 = .ok (.dup2, 1) := by decide +kernel
theorem dX6_advance_68 : decode cX6_advance 68 = .ok (.iaload, 1) := by decide +kernel
theorem dX6_advance_69 : decode cX6_advance 69 = .ok (.iload_n 2, 1) := by decide +kernel
theorem dX6_advance_70 : decode cX6_advance 70 = .ok (.iadd, 1) := by decide +kernel
theorem dX6_advance_71 : decode cX6_advance 71 = .ok (.iastore, 1) := by decide +kernel
theorem dX6_advance_72 : decode cX6_advance 72 = .ok (.aload_n 0, 1) := by decide +kernel
theorem dX6_advance_73 : decode cX6_advance 73 = .ok (.getfield 44, 3) := by decide +kernel
theorem dX6_advance_76 : decode cX6_advance 76 = .ok (.getfield 48, 3) := by decide +kernel
theorem dX6_advance_79 : decode cX6_advance 79 = .ok (.getfield 103, 3) := by decide +kernel
theorem dX6_advance_82 : decode cX6_advance 82 = .ok (.iload_n 1, 1) := by decide +kernel
theorem dX6_advance_83 : decode cX6_advance 83 = .ok (.iaload, 1) := by decide +kernel
theorem dX6_advance_84 : decode cX6_advance 84 = .ok (.ireturn, 1) := by decide +kernel
theorem dX6_withdraw_0 : decode cX6_withdraw 0 = .ok (.aload_n 0, 1) := by decide +kernel
theorem dX6_withdraw_1 : decode cX6_withdraw 1 = .ok (.iload_n 1, 1) := by decide +kernel
theorem dX6_withdraw_2 : decode cX6_withdraw 2 = .ok (.invokevirtual 71, 3) := by decide +kernel
theorem dX6_withdraw_5 : decode cX6_withdraw 5 = .ok (.iload_n 2, 1) := by decide +kernel
theorem dX6_withdraw_6 : decode cX6_withdraw 6 = .ok (.iconst 1, 1) := by decide +kernel
theorem dX6_withdraw_7 : decode cX6_withdraw 7 = .ok (.ldc 75, 2) := by decide +kernel
theorem dX6_withdraw_9 : decode cX6_withdraw 9 = .ok (.invokestatic 76, 3) := by decide +kernel
theorem dX6_withdraw_12 : decode cX6_withdraw 12 = .ok (.aload_n 0, 1) := by decide +kernel
theorem dX6_withdraw_13 : decode cX6_withdraw 13 = .ok (.getfield 44, 3) := by decide +kernel
theorem dX6_withdraw_16 : decode cX6_withdraw 16 = .ok (.getfield 48, 3) := by decide +kernel
theorem dX6_withdraw_19 : decode cX6_withdraw 19 = .ok (.getfield 85, 3) := by decide +kernel
theorem dX6_withdraw_22 : decode cX6_withdraw 22 = .ok (.iload_n 1, 1) := by decide +kernel
theorem dX6_withdraw_23 : decode cX6_withdraw 23 = .ok (.iaload, 1) := by decide +kernel
theorem dX6_withdraw_24 : decode cX6_withdraw 24 = .ok (.iload_n 2, 1) := by decide +kernel
theorem dX6_withdraw_25 : decode cX6_withdraw 25 = .ok (.invokestatic 88, 3) := by decide +kernel
theorem dX6_withdraw_28 : decode cX6_withdraw 28 = .ok (.aload_n 0, 1) := by decide +kernel
theorem dX6_withdraw_29 : decode cX6_withdraw 29 = .ok (.invokevirtual 65, 3) := by decide +kernel
theorem dX6_withdraw_32 : decode cX6_withdraw 32 = .ok (.aload_n 0, 1) := by decide +kernel
theorem dX6_withdraw_33 : decode cX6_withdraw 33 = .ok (.getfield 44, 3) := by decide +kernel
theorem dX6_withdraw_36 : decode cX6_withdraw 36 = .ok (.getfield 48, 3) := by decide +kernel
theorem dX6_withdraw_39 : decode cX6_withdraw 39 = .ok (.getfield 85, 3) := by decide +kernel
theorem dX6_withdraw_42 : decode cX6_withdraw 42 = .ok (.iload_n 1, 1) := by decide +kernel
theorem dX6_withdraw_43 : decode cX6_withdraw 43 = .ok (.dup2, 1) := by decide +kernel
theorem dX6_withdraw_44 : decode cX6_withdraw 44 = .ok (.iaload, 1) := by decide +kernel
theorem dX6_withdraw_45 : decode cX6_withdraw 45 = .ok (.iload_n 2, 1) := by decide +kernel
theorem dX6_withdraw_46 : decode cX6_withdraw 46 = .ok (.isub, 1) := by decide +kernel
theorem dX6_withdraw_47 : decode cX6_withdraw 47 = .ok (.iastore, 1) := by decide +kernel
theorem dX6_withdraw_48 : decode cX6_withdraw 48 = .ok (.aload_n 0, 1) := by decide +kernel
theorem dX6_withdraw_49 : decode cX6_withdraw 49 = .ok (.getfield 44, 3) := by decide +kernel
theorem dX6_withdraw_52 : decode cX6_withdraw 52 = .ok (.getfield 48, 3) := by decide +kernel
theorem dX6_withdraw_55 : decode cX6_withdraw 55 = .ok (.getfield 106, 3) := by decide +kernel
theorem dX6_withdraw_58 : decode cX6_withdraw 58 = .ok (.iload_n 1, 1) := by decide +kernel
theorem dX6_withdraw_59 : decode cX6_withdraw 59 = .ok (.dup2, 1) := by decide +kernel
theorem dX6_withdraw_60 : decode cX6_withdraw 60 = .ok (.iaload, 1) := by decide +kernel
theorem dX6_withdraw_61 : decode cX6_withdraw 61 = .ok (.iload_n 2, 1) := by decide +kernel
theorem dX6_withdraw_62 : decode cX6_withdraw 62 = .ok (.iadd, 1) := by decide +kernel
theorem dX6_withdraw_63 : decode cX6_withdraw 63 = .ok (.iastore, 1) := by decide +kernel
theorem dX6_withdraw_64 : decode cX6_withdraw 64 = .ok (.aload_n 0, 1) := by decide +kernel
theorem dX6_withdraw_65 : decode cX6_withdraw 65 = .ok (.getfield 44, 3) := by decide +kernel
theorem dX6_withdraw_68 : decode cX6_withdraw 68 = .ok (.getfield 48, 3) := by decide +kernel
theorem dX6_withdraw_71 : decode cX6_withdraw 71 = .ok (.getfield 85, 3) := by decide +kernel
theorem dX6_withdraw_74 : decode cX6_withdraw 74 = .ok (.iload_n 1, 1) := by decide +kernel
theorem dX6_withdraw_75 : decode cX6_withdraw 75 = .ok (.iaload, 1) := by decide +kernel
theorem dX6_withdraw_76 : decode cX6_withdraw 76 = .ok (.ireturn, 1) := by decide +kernel
theorem dX6_set_0 : decode cX6_set 0 = .ok (.iload_n 1, 1) := by decide +kernel
theorem dX6_set_1 : decode cX6_set 1 = .ok (.invokestatic 109, 3) := by decide +kernel
theorem dX6_set_4 : decode cX6_set 4 = .ok (.iload_n 2, 1) := by decide +kernel
theorem dX6_set_5 : decode cX6_set 5 = .ok (.iconst 0, 1) := by decide +kernel
theorem dX6_set_6 : decode cX6_set 6 = .ok (.getstatic 112, 3) := by decide +kernel
theorem dX6_set_9 : decode cX6_set 9 = .ok (.iload_n 1, 1) := by decide +kernel
theorem dX6_set_10 : decode cX6_set 10 = .ok (.iaload, 1) := by decide +kernel
theorem dX6_set_11 : decode cX6_set 11 = .ok (.invokestatic 76, 3) := by decide +kernel
theorem dX6_set_14 : decode cX6_set 14 = .ok (.aload_n 0, 1) := by decide +kernel
theorem dX6_set_15 : decode cX6_set 15 = .ok (.invokevirtual 65, 3) := by decide +kernel
theorem dX6_set_18 : decode cX6_set 18 = .ok (.aload_n 0, 1) := by decide +kernel
theorem dX6_set_19 : decode cX6_set 19 = .ok (.getfield 44, 3) := by decide +kernel
theorem dX6_set_22 : decode cX6_set 22 = .ok (.getfield 115, 3) := by decide +kernel
theorem dX6_set_25 : decode cX6_set 25 = .ok (.iload_n 1, 1) := by decide +kernel
theorem dX6_set_26 : decode cX6_set 26 = .ok (.iaload, 1) := by decide +kernel
theorem dX6_set_27 : decode cX6_set 27 = .ok (.istore_n 3, 1) := by decide +kernel
theorem dX6_set_28 : decode cX6_set 28 = .ok (.aload_n 0, 1) := by decide +kernel
theorem dX6_set_29 : decode cX6_set 29 = .ok (.getfield 44, 3) := by decide +kernel
theorem dX6_set_32 : decode cX6_set 32 = .ok (.getfield 115, 3) := by decide +kernel
theorem dX6_set_35 : decode cX6_set 35 = .ok (.iload_n 1, 1) := by decide +kernel
theorem dX6_set_36 : decode cX6_set 36 = .ok (.iload_n 2, 1) := by decide +kernel
theorem dX6_set_37 : decode cX6_set 37 = .ok (.iastore, 1) := by decide +kernel
theorem dX6_set_38 : decode cX6_set 38 = .ok (.iload_n 3, 1) := by decide +kernel
theorem dX6_set_39 : decode cX6_set 39 = .ok (.ireturn, 1) := by decide +kernel
theorem dX6_nextYear_0 : decode cX6_nextYear 0 = .ok (.aload_n 0, 1) := by decide +kernel
theorem dX6_nextYear_1 : decode cX6_nextYear 1 = .ok (.invokevirtual 65, 3) := by decide +kernel
theorem dX6_nextYear_4 : decode cX6_nextYear 4 = .ok (.aload_n 0, 1) := by decide +kernel
theorem dX6_nextYear_5 : decode cX6_nextYear 5 = .ok (.getfield 44, 3) := by decide +kernel
theorem dX6_nextYear_8 : decode cX6_nextYear 8 = .ok (.dup, 1) := by decide +kernel
theorem dX6_nextYear_9 : decode cX6_nextYear 9 = .ok (.getfield 118, 3) := by decide +kernel
theorem dX6_nextYear_12 : decode cX6_nextYear 12 = .ok (.iconst 1, 1) := by decide +kernel
theorem dX6_nextYear_13 : decode cX6_nextYear 13 = .ok (.iadd, 1) := by decide +kernel
theorem dX6_nextYear_14 : decode cX6_nextYear 14 = .ok (.putfield 118, 3) := by decide +kernel
theorem dX6_nextYear_17 : decode cX6_nextYear 17 = .ok (.aload_n 0, 1) := by decide +kernel
theorem dX6_nextYear_18 : decode cX6_nextYear 18 = .ok (.getfield 44, 3) := by decide +kernel
theorem dX6_nextYear_21 : decode cX6_nextYear 21 = .ok (.getfield 121, 3) := by decide +kernel
theorem dX6_nextYear_24 : decode cX6_nextYear 24 = .ok (.getfield 125, 3) := by decide +kernel
theorem dX6_nextYear_27 : decode cX6_nextYear 27 = .ok (.iconst 0, 1) := by decide +kernel
theorem dX6_nextYear_28 : decode cX6_nextYear 28 = .ok (.invokestatic 130, 3) := by decide +kernel
theorem dX6_nextYear_31 : decode cX6_nextYear 31 = .ok (.aload_n 0, 1) := by decide +kernel
theorem dX6_nextYear_32 : decode cX6_nextYear 32 = .ok (.getfield 44, 3) := by decide +kernel
theorem dX6_nextYear_35 : decode cX6_nextYear 35 = .ok (.getfield 118, 3) := by decide +kernel
theorem dX6_nextYear_38 : decode cX6_nextYear 38 = .ok (.ireturn, 1) := by decide +kernel
theorem dX6_order_0 : decode cX6_order 0 = .ok (.aload_n 0, 1) := by decide +kernel
theorem dX6_order_1 : decode cX6_order 1 = .ok (.iload_n 1, 1) := by decide +kernel
theorem dX6_order_2 : decode cX6_order 2 = .ok (.invokevirtual 71, 3) := by decide +kernel
theorem dX6_order_5 : decode cX6_order 5 = .ok (.iload_n 2, 1) := by decide +kernel
theorem dX6_order_6 : decode cX6_order 6 = .ok (.bipush 10, 2) := by decide +kernel
theorem dX6_order_8 : decode cX6_order 8 = .ok (.ldc 75, 2) := by decide +kernel
theorem dX6_order_10 : decode cX6_order 10 = .ok (.invokestatic 76, 3) := by decide +kernel
theorem dX6_order_13 : decode cX6_order 13 = .ok (.aload_n 0, 1) := by decide +kernel
theorem dX6_order_14 : decode cX6_order 14 = .ok (.getfield 44, 3) := by decide +kernel
theorem dX6_order_17 : decode cX6_order 17 = .ok (.getfield 121, 3) := by decide +kernel
theorem dX6_order_20 : decode cX6_order 20 = .ok (.getfield 136, 3) := by decide +kernel
theorem dX6_order_23 : decode cX6_order 23 = .ok (.bipush 20, 2) := by decide +kernel
theorem dX6_order_25 : decode cX6_order 25 = .ok (.if_icmp .lt 13, 3) := by decide +kernel
theorem dX6_order_28 : decode cX6_order 28 = .ok (.new 58, 3) := by decide +kernel
theorem dX6_order_31 : decode cX6_order 31 = .ok (.dup, 1) := by decide +kernel
theorem dX6_order_32 : decode cX6_order 32 = .ok (.ldc 137, 2) := by decide +kernel
theorem dX6_order_34 : decode cX6_order 34 = .ok (.invokespecial 62, 3) := by decide +kernel
theorem dX6_order_37 : decode cX6_order 37 = .ok (.athrow, 1) := by decide +kernel
theorem dX6_order_38 : decode cX6_order 38 = .ok (.aload_n 0, 1) := by decide +kernel
theorem dX6_order_39 : decode cX6_order 39 = .ok (.invokevirtual 65, 3) := by decide +kernel
theorem dX6_order_42 : decode cX6_order 42 = .ok (.aload_n 0, 1) := by decide +kernel
theorem dX6_order_43 : decode cX6_order 43 = .ok (.getfield 44, 3) := by decide +kernel
theorem dX6_order_46 : decode cX6_order 46 = .ok (.getfield 121, 3) := by decide +kernel
theorem dX6_order_49 : decode cX6_order 49 = .ok (.iload_n 1, 1) := by decide +kernel
theorem dX6_order_50 : decode cX6_order 50 = .ok (.iload_n 2, 1) := by decide +kernel
theorem dX6_order_51 : decode cX6_order 51 = .ok (.invokevirtual 139, 3) := by decide +kernel
theorem dX6_order_54 : decode cX6_order 54 = .ok (.ireturn, 1) := by decide +kernel
theorem dX6_draft_0 : decode cX6_draft 0 = .ok (.aload_n 0, 1) := by decide +kernel
theorem dX6_draft_1 : decode cX6_draft 1 = .ok (.iload_n 1, 1) := by decide +kernel
theorem dX6_draft_2 : decode cX6_draft 2 = .ok (.invokevirtual 143, 3) := by decide +kernel
theorem dX6_draft_5 : decode cX6_draft 5 = .ok (.aload_n 0, 1) := by decide +kernel
theorem dX6_draft_6 : decode cX6_draft 6 = .ok (.iload_n 2, 1) := by decide +kernel
theorem dX6_draft_7 : decode cX6_draft 7 = .ok (.invokevirtual 71, 3) := by decide +kernel
theorem dX6_draft_10 : decode cX6_draft 10 = .ok (.aload_n 0, 1) := by decide +kernel
theorem dX6_draft_11 : decode cX6_draft 11 = .ok (.iload_n 1, 1) := by decide +kernel
theorem dX6_draft_12 : decode cX6_draft 12 = .ok (.invokevirtual 146, 3) := by decide +kernel
theorem dX6_draft_15 : decode cX6_draft 15 = .ok (.aload_n 0, 1) := by decide +kernel
theorem dX6_draft_16 : decode cX6_draft 16 = .ok (.getfield 44, 3) := by decide +kernel
theorem dX6_draft_19 : decode cX6_draft 19 = .ok (.getfield 121, 3) := by decide +kernel
theorem dX6_draft_22 : decode cX6_draft 22 = .ok (.iload_n 1, 1) := by decide +kernel
theorem dX6_draft_23 : decode cX6_draft 23 = .ok (.invokevirtual 149, 3) := by decide +kernel
theorem dX6_draft_26 : decode cX6_draft 26 = .ok (.istore_n 3, 1) := by decide +kernel
theorem dX6_draft_27 : decode cX6_draft 27 = .ok (.iload_n 3, 1) := by decide +kernel
theorem dX6_draft_28 : decode cX6_draft 28 = .ok (.bipush 9, 2) := by decide +kernel
theorem dX6_draft_30 : decode cX6_draft 30 = .ok (.if_icmp .lt 13, 3) := by decide +kernel
theorem dX6_draft_33 : decode cX6_draft 33 = .ok (.new 58, 3) := by decide +kernel
theorem dX6_draft_36 : decode cX6_draft 36 = .ok (.dup, 1) := by decide +kernel
theorem dX6_draft_37 : decode cX6_draft 37 = .ok (.ldc 153, 2) := by decide +kernel
theorem dX6_draft_39 : decode cX6_draft 39 = .ok (.invokespecial 62, 3) := by decide +kernel
theorem dX6_draft_42 : decode cX6_draft 42 = .ok (.athrow, 1) := by decide +kernel
theorem dX6_draft_43 : decode cX6_draft 43 = .ok (.aload_n 0, 1) := by decide +kernel
theorem dX6_draft_44 : decode cX6_draft 44 = .ok (.invokevirtual 65, 3) := by decide +kernel
theorem dX6_draft_47 : decode cX6_draft 47 = .ok (.aload_n 0, 1) := by decide +kernel
theorem dX6_draft_48 : decode cX6_draft 48 = .ok (.getfield 44, 3) := by decide +kernel
theorem dX6_draft_51 : decode cX6_draft 51 = .ok (.getfield 121, 3) := by decide +kernel
theorem dX6_draft_54 : decode cX6_draft 54 = .ok (.getfield 155, 3) := by decide +kernel
theorem dX6_draft_57 : decode cX6_draft 57 = .ok (.iload_n 1, 1) := by decide +kernel
theorem dX6_draft_58 : decode cX6_draft 58 = .ok (.iload_n 2, 1) := by decide +kernel
theorem dX6_draft_59 : decode cX6_draft 59 = .ok (.invokestatic 158, 3) := by decide +kernel
theorem dX6_draft_62 : decode cX6_draft 62 = .ok (.dup2, 1) := by decide +kernel
theorem dX6_draft_63 : decode cX6_draft 63 = .ok (.iaload, 1) := by decide +kernel
theorem dX6_draft_64 : decode cX6_draft 64 = .ok (.iconst 1, 1) := by decide +kernel
theorem dX6_draft_65 : decode cX6_draft 65 = .ok (.iadd, 1) := by decide +kernel
theorem dX6_draft_66 : decode cX6_draft 66 = .ok (.iastore, 1) := by decide +kernel
theorem dX6_draft_67 : decode cX6_draft 67 = .ok (.aload_n 0, 1) := by decide +kernel
theorem dX6_draft_68 : decode cX6_draft 68 = .ok (.getfield 44, 3) := by decide +kernel
theorem dX6_draft_71 : decode cX6_draft 71 = .ok (.getfield 121, 3) := by decide +kernel
theorem dX6_draft_74 : decode cX6_draft 74 = .ok (.getfield 161, 3) := by decide +kernel
theorem dX6_draft_77 : decode cX6_draft 77 = .ok (.iload_n 1, 1) := by decide +kernel
theorem dX6_draft_78 : decode cX6_draft 78 = .ok (.iload_n 3, 1) := by decide +kernel
theorem dX6_draft_79 : decode cX6_draft 79 = .ok (.ifCond .ne 7, 3) := by decide +kernel
theorem dX6_draft_82 : decode cX6_draft 82 = .ok (.iconst 1, 1) := by decide +kernel
theorem dX6_draft_83 : decode cX6_draft 83 = .ok (.goto 4, 3) := by decide +kernel
theorem dX6_draft_86 : decode cX6_draft 86 = .ok (.iconst 2, 1) := by decide +kernel
theorem dX6_draft_87 : decode cX6_draft 87 = .ok (.iastore, 1) := by decide +kernel
theorem dX6_draft_88 : decode cX6_draft 88 = .ok (.aload_n 0, 1) := by decide +kernel
theorem dX6_draft_89 : decode cX6_draft 89 = .ok (.getfield 44, 3) := by decide +kernel
theorem dX6_draft_92 : decode cX6_draft 92 = .ok (.getfield 121, 3) := by decide +kernel
theorem dX6_draft_95 : decode cX6_draft 95 = .ok (.getfield 161, 3) := by decide +kernel
theorem dX6_draft_98 : decode cX6_draft 98 = .ok (.iload_n 1, 1) := by decide +kernel
theorem dX6_draft_99 : decode cX6_draft 99 = .ok (.iaload, 1) := by decide +kernel
theorem dX6_draft_100 : decode cX6_draft 100 = .ok (.ireturn, 1) := by decide +kernel
theorem dX6_revise_0 : decode cX6_revise 0 = .ok (.aload_n 0, 1) := by decide +kernel
theorem dX6_revise_1 : decode cX6_revise 1 = .ok (.iload_n 1, 1) := by decide +kernel
theorem dX6_revise_2 : decode cX6_revise 2 = .ok (.invokevirtual 143, 3) := by decide +kernel
theorem dX6_revise_5 : decode cX6_revise 5 = .ok (.iload_n 2, 1) := by decide +kernel
theorem dX6_revise_6 : decode cX6_revise 6 = .ok (.bipush 10, 2) := by decide +kernel
theorem dX6_revise_8 : decode cX6_revise 8 = .ok (.ldc 75, 2) := by decide +kernel
theorem dX6_revise_10 : decode cX6_revise 10 = .ok (.invokestatic 76, 3) := by decide +kernel
theorem dX6_revise_13 : decode cX6_revise 13 = .ok (.aload_n 0, 1) := by decide +kernel
theorem dX6_revise_14 : decode cX6_revise 14 = .ok (.iload_n 1, 1) := by decide +kernel
theorem dX6_revise_15 : decode cX6_revise 15 = .ok (.invokevirtual 146, 3) := by decide +kernel
theorem dX6_revise_18 : decode cX6_revise 18 = .ok (.aload_n 0, 1) := by decide +kernel
theorem dX6_revise_19 : decode cX6_revise 19 = .ok (.invokevirtual 65, 3) := by decide +kernel
theorem dX6_revise_22 : decode cX6_revise 22 = .ok (.aload_n 0, 1) := by decide +kernel
theorem dX6_revise_23 : decode cX6_revise 23 = .ok (.getfield 44, 3) := by decide +kernel
theorem dX6_revise_26 : decode cX6_revise 26 = .ok (.getfield 121, 3) := by decide +kernel
theorem dX6_revise_29 : decode cX6_revise 29 = .ok (.getfield 164, 3) := by decide +kernel
theorem dX6_revise_32 : decode cX6_revise 32 = .ok (.iload_n 1, 1) := by decide +kernel
theorem dX6_revise_33 : decode cX6_revise 33 = .ok (.iaload, 1) := by decide +kernel
theorem dX6_revise_34 : decode cX6_revise 34 = .ok (.istore_n 3, 1) := by decide +kernel
theorem dX6_revise_35 : decode cX6_revise 35 = .ok (.aload_n 0, 1) := by decide +kernel
theorem dX6_revise_36 : decode cX6_revise 36 = .ok (.getfield 44, 3) := by decide +kernel
theorem dX6_revise_39 : decode cX6_revise 39 = .ok (.getfield 121, 3) := by decide +kernel
theorem dX6_revise_42 : decode cX6_revise 42 = .ok (.getfield 164, 3) := by decide +kernel
theorem dX6_revise_45 : decode cX6_revise 45 = .ok (.iload_n 1, 1) := by decide +kernel
theorem dX6_revise_46 : decode cX6_revise 46 = .ok (.iload_n 2, 1) := by decide +kernel
theorem dX6_revise_47 : decode cX6_revise 47 = .ok (.iastore, 1) := by decide +kernel
theorem dX6_revise_48 : decode cX6_revise 48 = .ok (.aload_n 0, 1) := by decide +kernel
theorem dX6_revise_49 : decode cX6_revise 49 = .ok (.getfield 44, 3) := by decide +kernel
theorem dX6_revise_52 : decode cX6_revise 52 = .ok (.getfield 121, 3) := by decide +kernel
theorem dX6_revise_55 : decode cX6_revise 55 = .ok (.getfield 167, 3) := by decide +kernel
theorem dX6_revise_58 : decode cX6_revise 58 = .ok (.iload_n 1, 1) := by decide +kernel
theorem dX6_revise_59 : decode cX6_revise 59 = .ok (.dup2, 1) := by decide +kernel
theorem dX6_revise_60 : decode cX6_revise 60 = .ok (.iaload, 1) := by decide +kernel
theorem dX6_revise_61 : decode cX6_revise 61 = .ok (.iconst 1, 1) := by decide +kernel
theorem dX6_revise_62 : decode cX6_revise 62 = .ok (.iadd, 1) := by decide +kernel
theorem dX6_revise_63 : decode cX6_revise 63 = .ok (.iastore, 1) := by decide +kernel
theorem dX6_revise_64 : decode cX6_revise 64 = .ok (.iload_n 3, 1) := by decide +kernel
theorem dX6_revise_65 : decode cX6_revise 65 = .ok (.ireturn, 1) := by decide +kernel
theorem dX6_share_0 : decode cX6_share 0 = .ok (.aload_n 0, 1) := by decide +kernel
theorem dX6_share_1 : decode cX6_share 1 = .ok (.iload_n 1, 1) := by decide +kernel
theorem dX6_share_2 : decode cX6_share 2 = .ok (.invokevirtual 143, 3) := by decide +kernel
theorem dX6_share_5 : decode cX6_share 5 = .ok (.aload_n 0, 1) := by decide +kernel
theorem dX6_share_6 : decode cX6_share 6 = .ok (.getfield 18, 3) := by decide +kernel
theorem dX6_share_9 : decode cX6_share 9 = .ok (.invokevirtual 170, 3) := by decide +kernel
theorem dX6_share_12 : decode cX6_share 12 = .ok (.ifCond .eq 23, 3) := by decide +kernel
theorem dX6_share_15 : decode cX6_share 15 = .ok (.aload_n 0, 1) := by decide +kernel
theorem dX6_share_16 : decode cX6_share 16 = .ok (.getfield 18, 3) := by decide +kernel
theorem dX6_share_19 : decode cX6_share 19 = .ok (.invokevirtual 174, 3) := by decide +kernel
theorem dX6_share_22 : decode cX6_share 22 = .ok (.aload_n 0, 1) := by decide +kernel
theorem dX6_share_23 : decode cX6_share 23 = .ok (.getfield 44, 3) := by decide +kernel
theorem dX6_share_26 : decode cX6_share 26 = .ok (.getfield 48, 3) := by decide +kernel
theorem dX6_share_29 : decode cX6_share 29 = .ok (.getfield 52, 3) := by decide +kernel
theorem dX6_share_32 : decode cX6_share 32 = .ok (.if_icmp .lt 13, 3) := by decide +kernel
theorem dX6_share_35 : decode cX6_share 35 = .ok (.new 80, 3) := by decide +kernel
theorem dX6_share_38 : decode cX6_share 38 = .ok (.dup, 1) := by decide +kernel
theorem dX6_share_39 : decode cX6_share 39 = .ok (.ldc 178, 2) := by decide +kernel
theorem dX6_share_41 : decode cX6_share 41 = .ok (.invokespecial 84, 3) := by decide +kernel
theorem dX6_share_44 : decode cX6_share 44 = .ok (.athrow, 1) := by decide +kernel
theorem dX6_share_45 : decode cX6_share 45 = .ok (.aload_n 0, 1) := by decide +kernel
theorem dX6_share_46 : decode cX6_share 46 = .ok (.getfield 44, 3) := by decide +kernel
theorem dX6_share_49 : decode cX6_share 49 = .ok (.getfield 121, 3) := by decide +kernel
theorem dX6_share_52 : decode cX6_share 52 = .ok (.getfield 161, 3) := by decide +kernel
theorem dX6_share_55 : decode cX6_share 55 = .ok (.iload_n 1, 1) := by decide +kernel
theorem dX6_share_56 : decode cX6_share 56 = .ok (.iaload, 1) := by decide +kernel
theorem dX6_share_57 : decode cX6_share 57 = .ok (.iconst 4, 1) := by decide +kernel
theorem dX6_share_58 : decode cX6_share 58 = .ok (.if_icmp .ne 13, 3) := by decide +kernel
theorem dX6_share_61 : decode cX6_share 61 = .ok (.new 58, 3) := by decide +kernel
theorem dX6_share_64 : decode cX6_share 64 = .ok (.dup, 1) := by decide +kernel
theorem dX6_share_65 : decode cX6_share 65 = .ok (.ldc 180, 2) := by decide +kernel
theorem dX6_share_67 : decode cX6_share 67 = .ok (.invokespecial 62, 3) := by decide +kernel
theorem dX6_share_70 : decode cX6_share 70 = .ok (.athrow, 1) := by decide +kernel
theorem dX6_share_71 : decode cX6_share 71 = .ok (.aload_n 0, 1) := by decide +kernel
theorem dX6_share_72 : decode cX6_share 72 = .ok (.invokevirtual 65, 3) := by decide +kernel
theorem dX6_share_75 : decode cX6_share 75 = .ok (.aload_n 0, 1) := by decide +kernel
theorem dX6_share_76 : decode cX6_share 76 = .ok (.getfield 44, 3) := by decide +kernel
theorem dX6_share_79 : decode cX6_share 79 = .ok (.getfield 121, 3) := by decide +kernel
theorem dX6_share_82 : decode cX6_share 82 = .ok (.iload_n 1, 1) := by decide +kernel
theorem dX6_share_83 : decode cX6_share 83 = .ok (.aload_n 0, 1) := by decide +kernel
theorem dX6_share_84 : decode cX6_share 84 = .ok (.getfield 18, 3) := by decide +kernel
theorem dX6_share_87 : decode cX6_share 87 = .ok (.getfield 182, 3) := by decide +kernel
theorem dX6_share_90 : decode cX6_share 90 = .ok (.invokevirtual 185, 3) := by decide +kernel
theorem dX6_share_93 : decode cX6_share 93 = .ok (.aload_n 0, 1) := by decide +kernel
theorem dX6_share_94 : decode cX6_share 94 = .ok (.getfield 44, 3) := by decide +kernel
theorem dX6_share_97 : decode cX6_share 97 = .ok (.getfield 121, 3) := by decide +kernel
theorem dX6_share_100 : decode cX6_share 100 = .ok (.getfield 167, 3) := by decide +kernel
theorem dX6_share_103 : decode cX6_share 103 = .ok (.iload_n 1, 1) := by decide +kernel
theorem dX6_share_104 : decode cX6_share 104 = .ok (.dup2, 1) := by decide +kernel
theorem dX6_share_105 : decode cX6_share 105 = .ok (.iaload, 1) := by decide +kernel
theorem dX6_share_106 : decode cX6_share 106 = .ok (.iconst 1, 1) := by decide +kernel
theorem dX6_share_107 : decode cX6_share 107 = .ok (.iadd, 1) := by decide +kernel
theorem dX6_share_108 : decode cX6_share 108 = .ok (.iastore, 1) := by decide +kernel
theorem dX6_share_109 : decode cX6_share 109 = .ok (.aload_n 0, 1) := by decide +kernel
theorem dX6_share_110 : decode cX6_share 110 = .ok (.getfield 18, 3) := by decide +kernel
theorem dX6_share_113 : decode cX6_share 113 = .ok (.iconst 0, 1) := by decide +kernel
theorem dX6_share_114 : decode cX6_share 114 = .ok (.putfield 189, 3) := by decide +kernel
theorem dX6_share_117 : decode cX6_share 117 = .ok (.aload_n 0, 1) := by decide +kernel
theorem dX6_share_118 : decode cX6_share 118 = .ok (.getfield 44, 3) := by decide +kernel
theorem dX6_share_121 : decode cX6_share 121 = .ok (.getfield 121, 3) := by decide +kernel
theorem dX6_share_124 : decode cX6_share 124 = .ok (.iload_n 1, 1) := by decide +kernel
theorem dX6_share_125 : decode cX6_share 125 = .ok (.invokevirtual 192, 3) := by decide +kernel
theorem dX6_share_128 : decode cX6_share 128 = .ok (.ireturn, 1) := by decide +kernel
theorem dX6_accept_0 : decode cX6_accept 0 = .ok (.aload_n 0, 1) := by decide +kernel
theorem dX6_accept_1 : decode cX6_accept 1 = .ok (.iload_n 1, 1) := by decide +kernel
theorem dX6_accept_2 : decode cX6_accept 2 = .ok (.invokevirtual 143, 3) := by decide +kernel
theorem dX6_accept_5 : decode cX6_accept 5 = .ok (.aload_n 0, 1) := by decide +kernel
theorem dX6_accept_6 : decode cX6_accept 6 = .ok (.getfield 44, 3) := by decide +kernel
theorem dX6_accept_9 : decode cX6_accept 9 = .ok (.getfield 121, 3) := by decide +kernel
theorem dX6_accept_12 : decode cX6_accept 12 = .ok (.getfield 161, 3) := by decide +kernel
theorem dX6_accept_15 : decode cX6_accept 15 = .ok (.iload_n 1, 1) := by decide +kernel
theorem dX6_accept_16 : decode cX6_accept 16 = .ok (.iaload, 1) := by decide +kernel
theorem dX6_accept_17 : decode cX6_accept 17 = .ok (.istore_n 2, 1) := by decide +kernel
theorem dX6_accept_18 : decode cX6_accept 18 = .ok (.iload_n 2, 1) := by decide +kernel
theorem dX6_accept_19 : decode cX6_accept 19 = .ok (.iconst 1, 1) := by decide +kernel
theorem dX6_accept_20 : decode cX6_accept 20 = .ok (.if_icmp .eq 18, 3) := by decide +kernel
theorem dX6_accept_23 : decode cX6_accept 23 = .ok (.iload_n 2, 1) := by decide +kernel
theorem dX6_accept_24 : decode cX6_accept 24 = .ok (.iconst 2, 1) := by decide +kernel
theorem dX6_accept_25 : decode cX6_accept 25 = .ok (.if_icmp .eq 13, 3) := by decide +kernel
theorem dX6_accept_28 : decode cX6_accept 28 = .ok (.new 58, 3) := by decide +kernel
theorem dX6_accept_31 : decode cX6_accept 31 = .ok (.dup, 1) := by decide +kernel
theorem dX6_accept_32 : decode cX6_accept 32 = .ok (.ldc 195, 2) := by decide +kernel
theorem dX6_accept_34 : decode cX6_accept 34 = .ok (.invokespecial 62, 3) := by decide +kernel
theorem dX6_accept_37 : decode cX6_accept 37 = .ok (.athrow, 1) := by decide +kernel
theorem dX6_accept_38 : decode cX6_accept 38 = .ok (.aload_n 0, 1) := by decide +kernel
theorem dX6_accept_39 : decode cX6_accept 39 = .ok (.invokevirtual 65, 3) := by decide +kernel
theorem dX6_accept_42 : decode cX6_accept 42 = .ok (.aload_n 0, 1) := by decide +kernel
theorem dX6_accept_43 : decode cX6_accept 43 = .ok (.getfield 44, 3) := by decide +kernel
theorem dX6_accept_46 : decode cX6_accept 46 = .ok (.getfield 121, 3) := by decide +kernel
theorem dX6_accept_49 : decode cX6_accept 49 = .ok (.getfield 161, 3) := by decide +kernel
theorem dX6_accept_52 : decode cX6_accept 52 = .ok (.iload_n 1, 1) := by decide +kernel
theorem dX6_accept_53 : decode cX6_accept 53 = .ok (.iconst 3, 1) := by decide +kernel
theorem dX6_accept_54 : decode cX6_accept 54 = .ok (.iastore, 1) := by decide +kernel
theorem dX6_accept_55 : decode cX6_accept 55 = .ok (.aload_n 0, 1) := by decide +kernel
theorem dX6_accept_56 : decode cX6_accept 56 = .ok (.getfield 44, 3) := by decide +kernel
theorem dX6_accept_59 : decode cX6_accept 59 = .ok (.getfield 121, 3) := by decide +kernel
theorem dX6_accept_62 : decode cX6_accept 62 = .ok (.getfield 164, 3) := by decide +kernel
theorem dX6_accept_65 : decode cX6_accept 65 = .ok (.iload_n 1, 1) := by decide +kernel
theorem dX6_accept_66 : decode cX6_accept 66 = .ok (.iaload, 1) := by decide +kernel
theorem dX6_accept_67 : decode cX6_accept 67 = .ok (.istore_n 3, 1) := by decide +kernel
theorem dX6_accept_68 : decode cX6_accept 68 = .ok (.aload_n 0, 1) := by decide +kernel
theorem dX6_accept_69 : decode cX6_accept 69 = .ok (.getfield 25, 3) := by decide +kernel
theorem dX6_accept_72 : decode cX6_accept 72 = .ok (.aload_n 0, 1) := by decide +kernel
theorem dX6_accept_73 : decode cX6_accept 73 = .ok (.getfield 44, 3) := by decide +kernel
theorem dX6_accept_76 : decode cX6_accept 76 = .ok (.iload_n 1, 1) := by decide +kernel
theorem dX6_accept_77 : decode cX6_accept 77 = .ok (.iload_n 3, 1) := by decide +kernel
theorem dX6_accept_78 : decode cX6_accept 78 = .ok (.invokevirtual 197, 3) := by decide +kernel
theorem dX6_accept_81 : decode cX6_accept 81 = .ok (.aload_n 0, 1) := by decide +kernel
theorem dX6_accept_82 : decode cX6_accept 82 = .ok (.iload_n 3, 1) := by decide +kernel
theorem dX6_accept_83 : decode cX6_accept 83 = .ok (.invokevirtual 201, 3) := by decide +kernel
theorem dX6_accept_86 : decode cX6_accept 86 = .ok (.ireturn, 1) := by decide +kernel
theorem dX6_kill_0 : decode cX6_kill 0 = .ok (.aload_n 0, 1) := by decide +kernel
theorem dX6_kill_1 : decode cX6_kill 1 = .ok (.iload_n 1, 1) := by decide +kernel
theorem dX6_kill_2 : decode cX6_kill 2 = .ok (.invokevirtual 143, 3) := by decide +kernel
theorem dX6_kill_5 : decode cX6_kill 5 = .ok (.aload_n 0, 1) := by decide +kernel
theorem dX6_kill_6 : decode cX6_kill 6 = .ok (.iload_n 1, 1) := by decide +kernel
theorem dX6_kill_7 : decode cX6_kill 7 = .ok (.invokevirtual 146, 3) := by decide +kernel
theorem dX6_kill_10 : decode cX6_kill 10 = .ok (.aload_n 0, 1) := by decide +kernel
theorem dX6_kill_11 : decode cX6_kill 11 = .ok (.invokevirtual 65, 3) := by decide +kernel
theorem dX6_kill_14 : decode cX6_kill 14 = .ok (.aload_n 0, 1) := by decide +kernel
theorem dX6_kill_15 : decode cX6_kill 15 = .ok (.getfield 44, 3) := by decide +kernel
theorem dX6_kill_18 : decode cX6_kill 18 = .ok (.iload_n 1, 1) := by decide +kernel
theorem dX6_kill_19 : decode cX6_kill 19 = .ok (.invokevirtual 204, 3) := by decide +kernel
theorem dX6_kill_22 : decode cX6_kill 22 = .ok (.istore_n 2, 1) := by decide +kernel
theorem dX6_kill_23 : decode cX6_kill 23 = .ok (.aload_n 0, 1) := by decide +kernel
theorem dX6_kill_24 : decode cX6_kill 24 = .ok (.getfield 44, 3) := by decide +kernel
theorem dX6_kill_27 : decode cX6_kill 27 = .ok (.getfield 121, 3) := by decide +kernel
theorem dX6_kill_30 : decode cX6_kill 30 = .ok (.getfield 161, 3) := by decide +kernel
theorem dX6_kill_33 : decode cX6_kill 33 = .ok (.iload_n 1, 1) := by decide +kernel
theorem dX6_kill_34 : decode cX6_kill 34 = .ok (.iconst 4, 1) := by decide +kernel
theorem dX6_kill_35 : decode cX6_kill 35 = .ok (.iastore, 1) := by decide +kernel
theorem dX6_kill_36 : decode cX6_kill 36 = .ok (.aload_n 0, 1) := by decide +kernel
theorem dX6_kill_37 : decode cX6_kill 37 = .ok (.getfield 25, 3) := by decide +kernel
theorem dX6_kill_40 : decode cX6_kill 40 = .ok (.aload_n 0, 1) := by decide +kernel
theorem dX6_kill_41 : decode cX6_kill 41 = .ok (.getfield 44, 3) := by decide +kernel
theorem dX6_kill_44 : decode cX6_kill 44 = .ok (.iload_n 1, 1) := by decide +kernel
theorem dX6_kill_45 : decode cX6_kill 45 = .ok (.iload_n 2, 1) := by decide +kernel
theorem dX6_kill_46 : decode cX6_kill 46 = .ok (.invokevirtual 197, 3) := by decide +kernel
theorem dX6_kill_49 : decode cX6_kill 49 = .ok (.aload_n 0, 1) := by decide +kernel
theorem dX6_kill_50 : decode cX6_kill 50 = .ok (.iload_n 2, 1) := by decide +kernel
theorem dX6_kill_51 : decode cX6_kill 51 = .ok (.invokevirtual 201, 3) := by decide +kernel
theorem dX6_kill_54 : decode cX6_kill 54 = .ok (.pop, 1) := by decide +kernel
theorem dX6_kill_55 : decode cX6_kill 55 = .ok (.iload_n 2, 1) := by decide +kernel
theorem dX6_kill_56 : decode cX6_kill 56 = .ok (.ireturn, 1) := by decide +kernel
theorem dX6_royalty_0 : decode cX6_royalty 0 = .ok (.aload_n 0, 1) := by decide +kernel
theorem dX6_royalty_1 : decode cX6_royalty 1 = .ok (.iload_n 1, 1) := by decide +kernel
theorem dX6_royalty_2 : decode cX6_royalty 2 = .ok (.invokevirtual 143, 3) := by decide +kernel
theorem dX6_royalty_5 : decode cX6_royalty 5 = .ok (.iload_n 2, 1) := by decide +kernel
theorem dX6_royalty_6 : decode cX6_royalty 6 = .ok (.iconst 1, 1) := by decide +kernel
theorem dX6_royalty_7 : decode cX6_royalty 7 = .ok (.ldc 75, 2) := by decide +kernel
theorem dX6_royalty_9 : decode cX6_royalty 9 = .ok (.invokestatic 76, 3) := by decide +kernel
theorem dX6_royalty_12 : decode cX6_royalty 12 = .ok (.aload_n 0, 1) := by decide +kernel
theorem dX6_royalty_13 : decode cX6_royalty 13 = .ok (.iload_n 1, 1) := by decide +kernel
theorem dX6_royalty_14 : decode cX6_royalty 14 = .ok (.invokevirtual 207, 3) := by decide +kernel
theorem dX6_royalty_17 : decode cX6_royalty 17 = .ok (.aload_n 0, 1) := by decide +kernel
theorem dX6_royalty_18 : decode cX6_royalty 18 = .ok (.invokevirtual 65, 3) := by decide +kernel
theorem dX6_royalty_21 : decode cX6_royalty 21 = .ok (.aload_n 0, 1) := by decide +kernel
theorem dX6_royalty_22 : decode cX6_royalty 22 = .ok (.getfield 25, 3) := by decide +kernel
theorem dX6_royalty_25 : decode cX6_royalty 25 = .ok (.aload_n 0, 1) := by decide +kernel
theorem dX6_royalty_26 : decode cX6_royalty 26 = .ok (.getfield 44, 3) := by decide +kernel
theorem dX6_royalty_29 : decode cX6_royalty 29 = .ok (.iload_n 1, 1) := by decide +kernel
theorem dX6_royalty_30 : decode cX6_royalty 30 = .ok (.iload_n 2, 1) := by decide +kernel
theorem dX6_royalty_31 : decode cX6_royalty 31 = .ok (.invokevirtual 210, 3) := by decide +kernel
theorem dX6_royalty_34 : decode cX6_royalty 34 = .ok (.aload_n 0, 1) := by decide +kernel
theorem dX6_royalty_35 : decode cX6_royalty 35 = .ok (.getfield 44, 3) := by decide +kernel
theorem dX6_royalty_38 : decode cX6_royalty 38 = .ok (.getfield 121, 3) := by decide +kernel
theorem dX6_royalty_41 : decode cX6_royalty 41 = .ok (.getfield 213, 3) := by decide +kernel
theorem dX6_royalty_44 : decode cX6_royalty 44 = .ok (.iload_n 1, 1) := by decide +kernel
theorem dX6_royalty_45 : decode cX6_royalty 45 = .ok (.dup2, 1) := by decide +kernel
theorem dX6_royalty_46 : decode cX6_royalty 46 = .ok (.iaload, 1) := by decide +kernel
theorem dX6_royalty_47 : decode cX6_royalty 47 = .ok (.iload_n 2, 1) := by decide +kernel
theorem dX6_royalty_48 : decode cX6_royalty 48 = .ok (.iadd, 1) := by decide +kernel
theorem dX6_royalty_49 : decode cX6_royalty 49 = .ok (.iastore, 1) := by decide +kernel
theorem dX6_royalty_50 : decode cX6_royalty 50 = .ok (.aload_n 0, 1) := by decide +kernel
theorem dX6_royalty_51 : decode cX6_royalty 51 = .ok (.getfield 44, 3) := by decide +kernel
theorem dX6_royalty_54 : decode cX6_royalty 54 = .ok (.getfield 121, 3) := by decide +kernel
theorem dX6_royalty_57 : decode cX6_royalty 57 = .ok (.iload_n 1, 1) := by decide +kernel
theorem dX6_royalty_58 : decode cX6_royalty 58 = .ok (.aload_n 0, 1) := by decide +kernel
theorem dX6_royalty_59 : decode cX6_royalty 59 = .ok (.getfield 25, 3) := by decide +kernel
theorem dX6_royalty_62 : decode cX6_royalty 62 = .ok (.getfield 216, 3) := by decide +kernel
theorem dX6_royalty_65 : decode cX6_royalty 65 = .ok (.invokevirtual 219, 3) := by decide +kernel
theorem dX6_royalty_68 : decode cX6_royalty 68 = .ok (.aload_n 0, 1) := by decide +kernel
theorem dX6_royalty_69 : decode cX6_royalty 69 = .ok (.getfield 44, 3) := by decide +kernel
theorem dX6_royalty_72 : decode cX6_royalty 72 = .ok (.dup, 1) := by decide +kernel
theorem dX6_royalty_73 : decode cX6_royalty 73 = .ok (.getfield 222, 3) := by decide +kernel
theorem dX6_royalty_76 : decode cX6_royalty 76 = .ok (.aload_n 0, 1) := by decide +kernel
theorem dX6_royalty_77 : decode cX6_royalty 77 = .ok (.getfield 25, 3) := by decide +kernel
theorem dX6_royalty_80 : decode cX6_royalty 80 = .ok (.getfield 225, 3) := by decide +kernel
theorem dX6_royalty_83 : decode cX6_royalty 83 = .ok (.iadd, 1) := by decide +kernel
theorem dX6_royalty_84 : decode cX6_royalty 84 = .ok (.putfield 222, 3) := by decide +kernel
theorem dX6_royalty_87 : decode cX6_royalty 87 = .ok (.aload_n 0, 1) := by decide +kernel
theorem dX6_royalty_88 : decode cX6_royalty 88 = .ok (.iload_n 2, 1) := by decide +kernel
theorem dX6_royalty_89 : decode cX6_royalty 89 = .ok (.invokevirtual 201, 3) := by decide +kernel
theorem dX6_royalty_92 : decode cX6_royalty 92 = .ok (.ireturn, 1) := by decide +kernel
theorem dX6_dispute_0 : decode cX6_dispute 0 = .ok (.aload_n 0, 1) := by decide +kernel
theorem dX6_dispute_1 : decode cX6_dispute 1 = .ok (.iload_n 1, 1) := by decide +kernel
theorem dX6_dispute_2 : decode cX6_dispute 2 = .ok (.invokevirtual 143, 3) := by decide +kernel
theorem dX6_dispute_5 : decode cX6_dispute 5 = .ok (.aload_n 0, 1) := by decide +kernel
theorem dX6_dispute_6 : decode cX6_dispute 6 = .ok (.iload_n 2, 1) := by decide +kernel
theorem dX6_dispute_7 : decode cX6_dispute 7 = .ok (.invokevirtual 71, 3) := by decide +kernel
theorem dX6_dispute_10 : decode cX6_dispute 10 = .ok (.aload_n 0, 1) := by decide +kernel
theorem dX6_dispute_11 : decode cX6_dispute 11 = .ok (.getfield 44, 3) := by decide +kernel
theorem dX6_dispute_14 : decode cX6_dispute 14 = .ok (.getfield 121, 3) := by decide +kernel
theorem dX6_dispute_17 : decode cX6_dispute 17 = .ok (.iload_n 1, 1) := by decide +kernel
theorem dX6_dispute_18 : decode cX6_dispute 18 = .ok (.invokevirtual 226, 3) := by decide +kernel
theorem dX6_dispute_21 : decode cX6_dispute 21 = .ok (.iload_n 2, 1) := by decide +kernel
theorem dX6_dispute_22 : decode cX6_dispute 22 = .ok (.invokestatic 229, 3) := by decide +kernel
theorem dX6_dispute_25 : decode cX6_dispute 25 = .ok (.ifCond .ne 13, 3) := by decide +kernel
theorem dX6_dispute_28 : decode cX6_dispute 28 = .ok (.new 58, 3) := by decide +kernel
theorem dX6_dispute_31 : decode cX6_dispute 31 = .ok (.dup, 1) := by decide +kernel
theorem dX6_dispute_32 : decode cX6_dispute 32 = .ok (.ldc 233, 2) := by decide +kernel
theorem dX6_dispute_34 : decode cX6_dispute 34 = .ok (.invokespecial 62, 3) := by decide +kernel
theorem dX6_dispute_37 : decode cX6_dispute 37 = .ok (.athrow, 1) := by decide +kernel
theorem dX6_dispute_38 : decode cX6_dispute 38 = .ok (.aload_n 0, 1) := by decide +kernel
theorem dX6_dispute_39 : decode cX6_dispute 39 = .ok (.invokevirtual 65, 3) := by decide +kernel
theorem dX6_dispute_42 : decode cX6_dispute 42 = .ok (.aload_n 0, 1) := by decide +kernel
theorem dX6_dispute_43 : decode cX6_dispute 43 = .ok (.getfield 44, 3) := by decide +kernel
theorem dX6_dispute_46 : decode cX6_dispute 46 = .ok (.getfield 121, 3) := by decide +kernel
theorem dX6_dispute_49 : decode cX6_dispute 49 = .ok (.iload_n 1, 1) := by decide +kernel
theorem dX6_dispute_50 : decode cX6_dispute 50 = .ok (.invokevirtual 235, 3) := by decide +kernel
theorem dX6_dispute_53 : decode cX6_dispute 53 = .ok (.aload_n 0, 1) := by decide +kernel
theorem dX6_dispute_54 : decode cX6_dispute 54 = .ok (.getfield 44, 3) := by decide +kernel
theorem dX6_dispute_57 : decode cX6_dispute 57 = .ok (.getfield 121, 3) := by decide +kernel
theorem dX6_dispute_60 : decode cX6_dispute 60 = .ok (.getfield 167, 3) := by decide +kernel
theorem dX6_dispute_63 : decode cX6_dispute 63 = .ok (.iload_n 1, 1) := by decide +kernel
theorem dX6_dispute_64 : decode cX6_dispute 64 = .ok (.dup2, 1) := by decide +kernel
theorem dX6_dispute_65 : decode cX6_dispute 65 = .ok (.iaload, 1) := by decide +kernel
theorem dX6_dispute_66 : decode cX6_dispute 66 = .ok (.iconst 1, 1) := by decide +kernel
theorem dX6_dispute_67 : decode cX6_dispute 67 = .ok (.iadd, 1) := by decide +kernel
theorem dX6_dispute_68 : decode cX6_dispute 68 = .ok (.iastore, 1) := by decide +kernel
theorem dX6_dispute_69 : decode cX6_dispute 69 = .ok (.aload_n 0, 1) := by decide +kernel
theorem dX6_dispute_70 : decode cX6_dispute 70 = .ok (.getfield 44, 3) := by decide +kernel
theorem dX6_dispute_73 : decode cX6_dispute 73 = .ok (.dup, 1) := by decide +kernel
theorem dX6_dispute_74 : decode cX6_dispute 74 = .ok (.getfield 238, 3) := by decide +kernel
theorem dX6_dispute_77 : decode cX6_dispute 77 = .ok (.iconst 1, 1) := by decide +kernel
theorem dX6_dispute_78 : decode cX6_dispute 78 = .ok (.iadd, 1) := by decide +kernel
theorem dX6_dispute_79 : decode cX6_dispute 79 = .ok (.putfield 238, 3) := by decide +kernel
theorem dX6_dispute_82 : decode cX6_dispute 82 = .ok (.aload_n 0, 1) := by decide +kernel
theorem dX6_dispute_83 : decode cX6_dispute 83 = .ok (.getfield 44, 3) := by decide +kernel
theorem dX6_dispute_86 : decode cX6_dispute 86 = .ok (.getfield 121, 3) := by decide +kernel
theorem dX6_dispute_89 : decode cX6_dispute 89 = .ok (.getfield 241, 3) := by decide +kernel
theorem dX6_dispute_92 : decode cX6_dispute 92 = .ok (.iload_n 1, 1) := by decide +kernel
theorem dX6_dispute_93 : decode cX6_dispute 93 = .ok (.iload_n 2, 1) := by decide +kernel
theorem dX6_dispute_94 : decode cX6_dispute 94 = .ok (.invokestatic 158, 3) := by decide +kernel
theorem dX6_dispute_97 : decode cX6_dispute 97 = .ok (.iaload, 1) := by decide +kernel
theorem dX6_dispute_98 : decode cX6_dispute 98 = .ok (.ireturn, 1) := by decide +kernel
theorem dX6_append_0 : decode cX6_append 0 = .ok (.iload_n 1, 1) := by decide +kernel
theorem dX6_append_1 : decode cX6_append 1 = .ok (.bipush 33, 2) := by decide +kernel
theorem dX6_append_3 : decode cX6_append 3 = .ok (.bipush 126, 2) := by decide +kernel
theorem dX6_append_5 : decode cX6_append 5 = .ok (.invokestatic 76, 3) := by decide +kernel
theorem dX6_append_8 : decode cX6_append 8 = .ok (.aload_n 0, 1) := by decide +kernel
theorem dX6_append_9 : decode cX6_append 9 = .ok (.getfield 18, 3) := by decide +kernel
theorem dX6_append_12 : decode cX6_append 12 = .ok (.getfield 189, 3) := by decide +kernel
theorem dX6_append_15 : decode cX6_append 15 = .ok (.bipush 60, 2) := by decide +kernel
theorem dX6_append_17 : decode cX6_append 17 = .ok (.if_icmp .lt 13, 3) := by decide +kernel
theorem dX6_append_20 : decode cX6_append 20 = .ok (.new 58, 3) := by decide +kernel
theorem dX6_append_23 : decode cX6_append 23 = .ok (.dup, 1) := by decide +kernel
theorem dX6_append_24 : decode cX6_append 24 = .ok (.ldc 242, 2) := by decide +kernel
theorem dX6_append_26 : decode cX6_append 26 = .ok (.invokespecial 62, 3) := by decide +kernel
theorem dX6_append_29 : decode cX6_append 29 = .ok (.athrow, 1) := by decide +kernel
theorem dX6_append_30 : decode cX6_append 30 = .ok (.aload_n 0, 1) := by decide +kernel
theorem dX6_append_31 : decode cX6_append 31 = .ok (.getfield 18, 3) := by decide +kernel
theorem dX6_append_34 : decode cX6_append 34 = .ok (.getfield 244, 3) := by decide +kernel
theorem dX6_append_37 : decode cX6_append 37 = .ok (.aload_n 0, 1) := by decide +kernel
theorem dX6_append_38 : decode cX6_append 38 = .ok (.getfield 18, 3) := by decide +kernel
theorem dX6_append_41 : decode cX6_append 41 = .ok (.getfield 189, 3) := by decide +kernel
theorem dX6_append_44 : decode cX6_append 44 = .ok (.iload_n 1, 1) := by decide +kernel
theorem dX6_append_45 : decode cX6_append 45 = .ok (.iastore, 1) := by decide +kernel
theorem dX6_append_46 : decode cX6_append 46 = .ok (.aload_n 0, 1) := by decide +kernel
theorem dX6_append_47 : decode cX6_append 47 = .ok (.getfield 18, 3) := by decide +kernel
theorem dX6_append_50 : decode cX6_append 50 = .ok (.dup, 1) := by decide +kernel
theorem dX6_append_51 : decode cX6_append 51 = .ok (.getfield 189, 3) := by decide +kernel
theorem dX6_append_54 : decode cX6_append 54 = .ok (.iconst 1, 1) := by decide +kernel
theorem dX6_append_55 : decode cX6_append 55 = .ok (.iadd, 1) := by decide +kernel
theorem dX6_append_56 : decode cX6_append 56 = .ok (.putfield 189, 3) := by decide +kernel
theorem dX6_append_59 : decode cX6_append 59 = .ok (.aload_n 0, 1) := by decide +kernel
theorem dX6_append_60 : decode cX6_append 60 = .ok (.getfield 18, 3) := by decide +kernel
theorem dX6_append_63 : decode cX6_append 63 = .ok (.getfield 189, 3) := by decide +kernel
theorem dX6_append_66 : decode cX6_append 66 = .ok (.ireturn, 1) := by decide +kernel
theorem dX6_clearBuffer_0 : decode cX6_clearBuffer 0 = .ok (.aload_n 0, 1) := by decide +kernel
theorem dX6_clearBuffer_1 : decode cX6_clearBuffer 1 = .ok (.getfield 18, 3) := by decide +kernel
theorem dX6_clearBuffer_4 : decode cX6_clearBuffer 4 = .ok (.getfield 189, 3) := by decide +kernel
theorem dX6_clearBuffer_7 : decode cX6_clearBuffer 7 = .ok (.istore_n 1, 1) := by decide +kernel
theorem dX6_clearBuffer_8 : decode cX6_clearBuffer 8 = .ok (.aload_n 0, 1) := by decide +kernel
theorem dX6_clearBuffer_9 : decode cX6_clearBuffer 9 = .ok (.getfield 18, 3) := by decide +kernel
theorem dX6_clearBuffer_12 : decode cX6_clearBuffer 12 = .ok (.iconst 0, 1) := by decide +kernel
theorem dX6_clearBuffer_13 : decode cX6_clearBuffer 13 = .ok (.putfield 189, 3) := by decide +kernel
theorem dX6_clearBuffer_16 : decode cX6_clearBuffer 16 = .ok (.iload_n 1, 1) := by decide +kernel
theorem dX6_clearBuffer_17 : decode cX6_clearBuffer 17 = .ok (.ireturn, 1) := by decide +kernel
theorem dX6_firstError_0 : decode cX6_firstError 0 = .ok (.aload_n 0, 1) := by decide +kernel
theorem dX6_firstError_1 : decode cX6_firstError 1 = .ok (.getfield 18, 3) := by decide +kernel
theorem dX6_firstError_4 : decode cX6_firstError 4 = .ok (.invokevirtual 247, 3) := by decide +kernel
theorem dX6_firstError_7 : decode cX6_firstError 7 = .ok (.ireturn, 1) := by decide +kernel
theorem dX6_undo_0 : decode cX6_undo 0 = .ok (.aload_n 0, 1) := by decide +kernel
theorem dX6_undo_1 : decode cX6_undo 1 = .ok (.getfield 250, 3) := by decide +kernel
theorem dX6_undo_4 : decode cX6_undo 4 = .ok (.ifCond .ne 13, 3) := by decide +kernel
theorem dX6_undo_7 : decode cX6_undo 7 = .ok (.new 58, 3) := by decide +kernel
theorem dX6_undo_10 : decode cX6_undo 10 = .ok (.dup, 1) := by decide +kernel
theorem dX6_undo_11 : decode cX6_undo 11 = .ok (.ldc 253, 2) := by decide +kernel
theorem dX6_undo_13 : decode cX6_undo 13 = .ok (.invokespecial 62, 3) := by decide +kernel
theorem dX6_undo_16 : decode cX6_undo 16 = .ok (.athrow, 1) := by decide +kernel
theorem dX6_undo_17 : decode cX6_undo 17 = .ok (.aload_n 0, 1) := by decide +kernel
theorem dX6_undo_18 : decode cX6_undo 18 = .ok (.aload_n 0, 1) := by decide +kernel
theorem dX6_undo_19 : decode cX6_undo 19 = .ok (.getfield 255, 3) := by decide +kernel
theorem dX6_undo_22 : decode cX6_undo 22 = .ok (.bipush 6, 2) := by decide +kernel
theorem dX6_undo_24 : decode cX6_undo 24 = .ok (.iadd, 1) := by decide +kernel
theorem dX6_undo_25 : decode cX6_undo 25 = .ok (.bipush 7, 2) := by decide +kernel
theorem dX6_undo_27 : decode cX6_undo 27 = .ok (.irem, 1) := by decide +kernel
theorem dX6_undo_28 : decode cX6_undo 28 = .ok (.putfield 255, 3) := by decide +kernel
theorem dX6_undo_31 : decode cX6_undo 31 = .ok (.aload_n 0, 1) := by decide +kernel
theorem dX6_undo_32 : decode cX6_undo 32 = .ok (.aload_n 0, 1) := by decide +kernel
theorem dX6_undo_33 : decode cX6_undo 33 = .ok (.getfield 11, 3) := by decide +kernel
theorem dX6_undo_36 : decode cX6_undo 36 = .ok (.aload_n 0, 1) := by decide +kernel
theorem dX6_undo_37 : decode cX6_undo 37 = .ok (.getfield 255, 3) := by decide +kernel
theorem dX6_undo_40 : decode cX6_undo 40 = .ok (.aaload, 1) := by decide +kernel
theorem dX6_undo_41 : decode cX6_undo 41 = .ok (.putfield 44, 3) := by decide +kernel
theorem dX6_undo_44 : decode cX6_undo 44 = .ok (.aload_n 0, 1) := by decide +kernel
theorem dX6_undo_45 : decode cX6_undo 45 = .ok (.dup, 1) := by decide +kernel
theorem dX6_undo_46 : decode cX6_undo 46 = .ok (.getfield 250, 3) := by decide +kernel
theorem dX6_undo_49 : decode cX6_undo 49 = .ok (.iconst 1, 1) := by decide +kernel
theorem dX6_undo_50 : decode cX6_undo 50 = .ok (.isub, 1) := by decide +kernel
theorem dX6_undo_51 : decode cX6_undo 51 = .ok (.putfield 250, 3) := by decide +kernel
theorem dX6_undo_54 : decode cX6_undo 54 = .ok (.aload_n 0, 1) := by decide +kernel
theorem dX6_undo_55 : decode cX6_undo 55 = .ok (.getfield 250, 3) := by decide +kernel
theorem dX6_undo_58 : decode cX6_undo 58 = .ok (.ireturn, 1) := by decide +kernel
theorem dX6_pen_0 : decode cX6_pen 0 = .ok (.aload_n 0, 1) := by decide +kernel
theorem dX6_pen_1 : decode cX6_pen 1 = .ok (.iload_n 1, 1) := by decide +kernel
theorem dX6_pen_2 : decode cX6_pen 2 = .ok (.invokevirtual 71, 3) := by decide +kernel
theorem dX6_pen_5 : decode cX6_pen 5 = .ok (.iload_n 2, 1) := by decide +kernel
theorem dX6_pen_6 : decode cX6_pen 6 = .ok (.iconst 0, 1) := by decide +kernel
theorem dX6_pen_7 : decode cX6_pen 7 = .ok (.bipush 8, 2) := by decide +kernel
theorem dX6_pen_9 : decode cX6_pen 9 = .ok (.invokestatic 76, 3) := by decide +kernel
theorem dX6_pen_12 : decode cX6_pen 12 = .ok (.aload_n 0, 1) := by decide +kernel
theorem dX6_pen_13 : decode cX6_pen 13 = .ok (.getfield 44, 3) := by decide +kernel
theorem dX6_pen_16 : decode cX6_pen 16 = .ok (.getfield 48, 3) := by decide +kernel
theorem dX6_pen_19 : decode cX6_pen 19 = .ok (.astore_n 3, 1) := by decide +kernel
theorem dX6_pen_20 : decode cX6_pen 20 = .ok (.iload_n 2, 1) := by decide +kernel
theorem dX6_pen_21 : decode cX6_pen 21 = .ok (.tableswitch 107 0 7 #[47, 54, 61, 68, 75, 82, 88, 95], 47) := by decide +kernel
theorem dX6_pen_68 : decode cX6_pen 68 = .ok (.aload_n 3, 1) := by decide +kernel
theorem dX6_pen_69 : decode cX6_pen 69 = .ok (.getfield 85, 3) := by decide +kernel
theorem dX6_pen_72 : decode cX6_pen 72 = .ok (.iload_n 1, 1) := by decide +kernel
theorem dX6_pen_73 : decode cX6_pen 73 = .ok (.iaload, 1) := by decide +kernel
theorem dX6_pen_74 : decode cX6_pen 74 = .ok (.ireturn, 1) := by decide +kernel
theorem dX6_pen_75 : decode cX6_pen 75 = .ok (.aload_n 3, 1) := by decide +kernel
theorem dX6_pen_76 : decode cX6_pen 76 = .ok (.getfield 103, 3) := by decide +kernel
theorem dX6_pen_79 : decode cX6_pen 79 = .ok (.iload_n 1, 1) := by decide +kernel
theorem dX6_pen_80 : decode cX6_pen 80 = .ok (.iaload, 1) := by decide +kernel
theorem dX6_pen_81 : decode cX6_pen 81 = .ok (.ireturn, 1) := by decide +kernel
theorem dX6_pen_82 : decode cX6_pen 82 = .ok (.aload_n 3, 1) := by decide +kernel
theorem dX6_pen_83 : decode cX6_pen 83 = .ok (.getfield 258, 3) := by decide +kernel
theorem dX6_pen_86 : decode cX6_pen 86 = .ok (.iload_n 1, 1) := by decide +kernel
theorem dX6_pen_87 : decode cX6_pen 87 = .ok (.iaload, 1) := by decide +kernel
theorem dX6_pen_88 : decode cX6_pen 88 = .ok (.ireturn, 1) := by decide +kernel
theorem dX6_pen_89 : decode cX6_pen 89 = .ok (.aload_n 3, 1) := by decide +kernel
theorem dX6_pen_90 : decode cX6_pen 90 = .ok (.getfield 68, 3) := by decide +kernel
theorem dX6_pen_93 : decode cX6_pen 93 = .ok (.iload_n 1, 1) := by decide +kernel
theorem dX6_pen_94 : decode cX6_pen 94 = .ok (.iaload, 1) := by decide +kernel
theorem dX6_pen_95 : decode cX6_pen 95 = .ok (.ireturn, 1) := by decide +kernel
theorem dX6_pen_96 : decode cX6_pen 96 = .ok (.aload_n 3, 1) := by decide +kernel
theorem dX6_pen_97 : decode cX6_pen 97 = .ok (.getfield 97, 3) := by decide +kernel
theorem dX6_pen_100 : decode cX6_pen 100 = .ok (.iload_n 1, 1) := by decide +kernel
theorem dX6_pen_101 : decode cX6_pen 101 = .ok (.iaload, 1) := by decide +kernel
theorem dX6_pen_102 : decode cX6_pen 102 = .ok (.ireturn, 1) := by decide +kernel
theorem dX6_pen_103 : decode cX6_pen 103 = .ok (.aload_n 3, 1) := by decide +kernel
theorem dX6_pen_104 : decode cX6_pen 104 = .ok (.iload_n 1, 1) := by decide +kernel
theorem dX6_pen_105 : decode cX6_pen 105 = .ok (.invokevirtual 261, 3) := by decide +kernel
theorem dX6_pen_108 : decode cX6_pen 108 = .ok (.ireturn, 1) := by decide +kernel
theorem dX6_pen_109 : decode cX6_pen 109 = .ok (.aload_n 3, 1) := by decide +kernel
theorem dX6_pen_110 : decode cX6_pen 110 = .ok (.getfield 106, 3) := by decide +kernel
theorem dX6_pen_113 : decode cX6_pen 113 = .ok (.iload_n 1, 1) := by decide +kernel
theorem dX6_pen_114 : decode cX6_pen 114 = .ok (.iaload, 1) := by decide +kernel
theorem dX6_pen_115 : decode cX6_pen 115 = .ok (.ireturn, 1) := by decide +kernel
theorem dX6_pen_116 : decode cX6_pen 116 = .ok (.aload_n 0, 1) := by decide +kernel
theorem dX6_pen_117 : decode cX6_pen 117 = .ok (.getfield 44, 3) := by decide +kernel
theorem dX6_pen_120 : decode cX6_pen 120 = .ok (.getfield 121, 3) := by decide +kernel
theorem dX6_pen_123 : decode cX6_pen 123 = .ok (.iload_n 1, 1) := by decide +kernel
theorem dX6_pen_124 : decode cX6_pen 124 = .ok (.invokevirtual 264, 3) := by decide +kernel
theorem dX6_pen_127 : decode cX6_pen 127 = .ok (.ireturn, 1) := by decide +kernel
theorem dX6_pen_128 : decode cX6_pen 128 = .ok (.aload_n 3, 1) := by decide +kernel
theorem dX6_pen_129 : decode cX6_pen 129 = .ok (.iload_n 1, 1) := by decide +kernel
theorem dX6_pen_130 : decode cX6_pen 130 = .ok (.invokevirtual 267, 3) := by decide +kernel
theorem dX6_pen_133 : decode cX6_pen 133 = .ok (.ireturn, 1) := by decide +kernel
theorem dX6_piece_0 : decode cX6_piece 0 = .ok (.aload_n 0, 1) := by decide +kernel
theorem dX6_piece_1 : decode cX6_piece 1 = .ok (.iload_n 1, 1) := by decide +kernel
theorem dX6_piece_2 : decode cX6_piece 2 = .ok (.invokevirtual 143, 3) := by decide +kernel
theorem dX6_piece_5 : decode cX6_piece 5 = .ok (.iload_n 2, 1) := by decide +kernel
theorem dX6_piece_6 : decode cX6_piece 6 = .ok (.iconst 0, 1) := by decide +kernel
theorem dX6_piece_7 : decode cX6_piece 7 = .ok (.bipush 9, 2) := by decide +kernel
theorem dX6_piece_9 : decode cX6_piece 9 = .ok (.invokestatic 76, 3) := by decide +kernel
theorem dX6_piece_12 : decode cX6_piece 12 = .ok (.aload_n 0, 1) := by decide +kernel
theorem dX6_piece_13 : decode cX6_piece 13 = .ok (.getfield 44, 3) := by decide +kernel
theorem dX6_piece_16 : decode cX6_piece 16 = .ok (.getfield 121, 3) := by decide +kernel
theorem dX6_piece_19 : decode cX6_piece 19 = .ok (.astore_n 3, 1) := by decide +kernel
theorem dX6_piece_20 : decode cX6_piece 20 = .ok (.iload_n 2, 1) := by decide +kernel
theorem dX6_piece_21 : decode cX6_piece 21 = .ok (.tableswitch 113 0 8 #[51, 58, 65, 72, 79, 85, 91, 97, 104], 51) := by decide +kernel
theorem dX6_piece_72 : decode cX6_piece 72 = .ok (.aload_n 3, 1) := by decide +kernel
theorem dX6_piece_73 : decode cX6_piece 73 = .ok (.getfield 270, 3) := by decide +kernel
theorem dX6_piece_76 : decode cX6_piece 76 = .ok (.iload_n 1, 1) := by decide +kernel
theorem dX6_piece_77 : decode cX6_piece 77 = .ok (.iaload, 1) := by decide +kernel
theorem dX6_piece_78 : decode cX6_piece 78 = .ok (.ireturn, 1) := by decide +kernel
theorem dX6_piece_79 : decode cX6_piece 79 = .ok (.aload_n 3, 1) := by decide +kernel
theorem dX6_piece_80 : decode cX6_piece 80 = .ok (.getfield 164, 3) := by decide +kernel
theorem dX6_piece_83 : decode cX6_piece 83 = .ok (.iload_n 1, 1) := by decide +kernel
theorem dX6_piece_84 : decode cX6_piece 84 = .ok (.iaload, 1) := by decide +kernel
theorem dX6_piece_85 : decode cX6_piece 85 = .ok (.ireturn, 1) := by decide +kernel
theorem dX6_piece_86 : decode cX6_piece 86 = .ok (.aload_n 3, 1) := by decide +kernel
theorem dX6_piece_87 : decode cX6_piece 87 = .ok (.getfield 161, 3) := by decide +kernel
theorem dX6_piece_90 : decode cX6_piece 90 = .ok (.iload_n 1, 1) := by decide +kernel
theorem dX6_piece_91 : decode cX6_piece 91 = .ok (.iaload, 1) := by decide +kernel
theorem dX6_piece_92 : decode cX6_piece 92 = .ok (.ireturn, 1) := by decide +kernel
theorem dX6_piece_93 : decode cX6_piece 93 = .ok (.aload_n 3, 1) := by decide +kernel
theorem dX6_piece_94 : decode cX6_piece 94 = .ok (.getfield 167, 3) := by decide +kernel
theorem dX6_piece_97 : decode cX6_piece 97 = .ok (.iload_n 1, 1) := by decide +kernel
theorem dX6_piece_98 : decode cX6_piece 98 = .ok (.iaload, 1) := by decide +kernel
theorem dX6_piece_99 : decode cX6_piece 99 = .ok (.ireturn, 1) := by decide +kernel
theorem dX6_piece_100 : decode cX6_piece 100 = .ok (.aload_n 3, 1) := by decide +kernel
theorem dX6_piece_101 : decode cX6_piece 101 = .ok (.iload_n 1, 1) := by decide +kernel
theorem dX6_piece_102 : decode cX6_piece 102 = .ok (.invokevirtual 149, 3) := by decide +kernel
theorem dX6_piece_105 : decode cX6_piece 105 = .ok (.ireturn, 1) := by decide +kernel
theorem dX6_piece_106 : decode cX6_piece 106 = .ok (.aload_n 3, 1) := by decide +kernel
theorem dX6_piece_107 : decode cX6_piece 107 = .ok (.iload_n 1, 1) := by decide +kernel
theorem dX6_piece_108 : decode cX6_piece 108 = .ok (.invokevirtual 273, 3) := by decide +kernel
theorem dX6_piece_111 : decode cX6_piece 111 = .ok (.ireturn, 1) := by decide +kernel
theorem dX6_piece_112 : decode cX6_piece 112 = .ok (.aload_n 3, 1) := by decide +kernel
theorem dX6_piece_113 : decode cX6_piece 113 = .ok (.iload_n 1, 1) := by decide +kernel
theorem dX6_piece_114 : decode cX6_piece 114 = .ok (.invokevirtual 192, 3) := by decide +kernel
theorem dX6_piece_117 : decode cX6_piece 117 = .ok (.ireturn, 1) := by decide +kernel
theorem dX6_piece_118 : decode cX6_piece 118 = .ok (.aload_n 3, 1) := by decide +kernel
theorem dX6_piece_119 : decode cX6_piece 119 = .ok (.getfield 213, 3) := by decide +kernel
theorem dX6_piece_122 : decode cX6_piece 122 = .ok (.iload_n 1, 1) := by decide +kernel
theorem dX6_piece_123 : decode cX6_piece 123 = .ok (.iaload, 1) := by decide +kernel
theorem dX6_piece_124 : decode cX6_piece 124 = .ok (.ireturn, 1) := by decide +kernel
theorem dX6_piece_125 : decode cX6_piece 125 = .ok (.aload_n 0, 1) := by decide +kernel
theorem dX6_piece_126 : decode cX6_piece 126 = .ok (.getfield 44, 3) := by decide +kernel
theorem dX6_piece_129 : decode cX6_piece 129 = .ok (.iload_n 1, 1) := by decide +kernel
theorem dX6_piece_130 : decode cX6_piece 130 = .ok (.invokevirtual 204, 3) := by decide +kernel
theorem dX6_piece_133 : decode cX6_piece 133 = .ok (.ireturn, 1) := by decide +kernel
theorem dX6_piece_134 : decode cX6_piece 134 = .ok (.aload_n 3, 1) := by decide +kernel
theorem dX6_piece_135 : decode cX6_piece 135 = .ok (.iload_n 1, 1) := by decide +kernel
theorem dX6_piece_136 : decode cX6_piece 136 = .ok (.invokevirtual 226, 3) := by decide +kernel
theorem dX6_piece_139 : decode cX6_piece 139 = .ok (.ireturn, 1) := by decide +kernel
theorem dX6_between_0 : decode cX6_between 0 = .ok (.aload_n 0, 1) := by decide +kernel
theorem dX6_between_1 : decode cX6_between 1 = .ok (.iload_n 1, 1) := by decide +kernel
theorem dX6_between_2 : decode cX6_between 2 = .ok (.invokevirtual 143, 3) := by decide +kernel
theorem dX6_between_5 : decode cX6_between 5 = .ok (.aload_n 0, 1) := by decide +kernel
theorem dX6_between_6 : decode cX6_between 6 = .ok (.iload_n 2, 1) := by decide +kernel
theorem dX6_between_7 : decode cX6_between 7 = .ok (.invokevirtual 71, 3) := by decide +kernel
theorem dX6_between_10 : decode cX6_between 10 = .ok (.iload_n 3, 1) := by decide +kernel
theorem dX6_between_11 : decode cX6_between 11 = .ok (.iconst 0, 1) := by decide +kernel
theorem dX6_between_12 : decode cX6_between 12 = .ok (.iconst 2, 1) := by decide +kernel
theorem dX6_between_13 : decode cX6_between 13 = .ok (.invokestatic 76, 3) := by decide +kernel
theorem dX6_between_16 : decode cX6_between 16 = .ok (.iload_n 3, 1) := by decide +kernel
theorem dX6_between_17 : decode cX6_between 17 = .ok (.lookupswitch 61 #[(0, 27), (1, 44)], 27) := by decide +kernel
theorem dX6_between_44 : decode cX6_between 44 = .ok (.aload_n 0, 1) := by decide +kernel
theorem dX6_between_45 : decode cX6_between 45 = .ok (.getfield 44, 3) := by decide +kernel
theorem dX6_between_48 : decode cX6_between 48 = .ok (.getfield 121, 3) := by decide +kernel
theorem dX6_between_51 : decode cX6_between 51 = .ok (.getfield 241, 3) := by decide +kernel
theorem dX6_between_54 : decode cX6_between 54 = .ok (.iload_n 1, 1) := by decide +kernel
theorem dX6_between_55 : decode cX6_between 55 = .ok (.iload_n 2, 1) := by decide +kernel
theorem dX6_between_56 : decode cX6_between 56 = .ok (.invokestatic 158, 3) := by decide +kernel
theorem dX6_between_59 : decode cX6_between 59 = .ok (.iaload, 1) := by decide +kernel
theorem dX6_between_60 : decode cX6_between 60 = .ok (.ireturn, 1) := by decide +kernel
theorem dX6_between_61 : decode cX6_between 61 = .ok (.aload_n 0, 1) := by decide +kernel
theorem dX6_between_62 : decode cX6_between 62 = .ok (.getfield 44, 3) := by decide +kernel
theorem dX6_between_65 : decode cX6_between 65 = .ok (.getfield 121, 3) := by decide +kernel
theorem dX6_between_68 : decode cX6_between 68 = .ok (.getfield 155, 3) := by decide +kernel
theorem dX6_between_71 : decode cX6_between 71 = .ok (.iload_n 1, 1) := by decide +kernel
theorem dX6_between_72 : decode cX6_between 72 = .ok (.iload_n 2, 1) := by decide +kernel
theorem dX6_between_73 : decode cX6_between 73 = .ok (.invokestatic 158, 3) := by decide +kernel
theorem dX6_between_76 : decode cX6_between 76 = .ok (.iaload, 1) := by decide +kernel
theorem dX6_between_77 : decode cX6_between 77 = .ok (.ireturn, 1) := by decide +kernel
theorem dX6_between_78 : decode cX6_between 78 = .ok (.aload_n 0, 1) := by decide +kernel
theorem dX6_between_79 : decode cX6_between 79 = .ok (.getfield 44, 3) := by decide +kernel
theorem dX6_between_82 : decode cX6_between 82 = .ok (.getfield 121, 3) := by decide +kernel
theorem dX6_between_85 : decode cX6_between 85 = .ok (.getfield 125, 3) := by decide +kernel
theorem dX6_between_88 : decode cX6_between 88 = .ok (.iload_n 1, 1) := by decide +kernel
theorem dX6_between_89 : decode cX6_between 89 = .ok (.iload_n 2, 1) := by decide +kernel
theorem dX6_between_90 : decode cX6_between 90 = .ok (.invokestatic 158, 3) := by decide +kernel
theorem dX6_between_93 : decode cX6_between 93 = .ok (.iaload, 1) := by decide +kernel
theorem dX6_between_94 : decode cX6_between 94 = .ok (.ireturn, 1) := by decide +kernel
theorem dX6_count_0 : decode cX6_count 0 = .ok (.iload_n 1, 1) := by decide +kernel
theorem dX6_count_1 : decode cX6_count 1 = .ok (.iconst 0, 1) := by decide +kernel
theorem dX6_count_2 : decode cX6_count 2 = .ok (.bipush 13, 2) := by decide +kernel
theorem dX6_count_4 : decode cX6_count 4 = .ok (.invokestatic 76, 3) := by decide +kernel
theorem dX6_count_7 : decode cX6_count 7 = .ok (.iload_n 1, 1) := by decide +kernel
theorem dX6_count_8 : decode cX6_count 8 = .ok (.tableswitch 207 0 12 #[68, 79, 90, 98, 106, 114, 128, 142, 156, 168, 180, 188, 199], 68) := by decide +kernel
theorem dX6_count_76 : decode cX6_count 76 = .ok (.aload_n 0, 1) := by decide +kernel
theorem dX6_count_77 : decode cX6_count 77 = .ok (.getfield 44, 3) := by decide +kernel
theorem dX6_count_80 : decode cX6_count 80 = .ok (.getfield 48, 3) := by decide +kernel
theorem dX6_count_83 : decode cX6_count 83 = .ok (.getfield 52, 3) := by decide +kernel
theorem dX6_count_86 : decode cX6_count 86 = .ok (.ireturn, 1) := by decide +kernel
theorem dX6_count_87 : decode cX6_count 87 = .ok (.aload_n 0, 1) := by decide +kernel
theorem dX6_count_88 : decode cX6_count 88 = .ok (.getfield 44, 3) := by decide +kernel
theorem dX6_count_91 : decode cX6_count 91 = .ok (.getfield 121, 3) := by decide +kernel
theorem dX6_count_94 : decode cX6_count 94 = .ok (.getfield 136, 3) := by decide +kernel
theorem dX6_count_97 : decode cX6_count 97 = .ok (.ireturn, 1) := by decide +kernel
theorem dX6_count_98 : decode cX6_count 98 = .ok (.aload_n 0, 1) := by decide +kernel
theorem dX6_count_99 : decode cX6_count 99 = .ok (.getfield 44, 3) := by decide +kernel
theorem dX6_count_102 : decode cX6_count 102 = .ok (.getfield 118, 3) := by decide +kernel
theorem dX6_count_105 : decode cX6_count 105 = .ok (.ireturn, 1) := by decide +kernel
theorem dX6_count_106 : decode cX6_count 106 = .ok (.aload_n 0, 1) := by decide +kernel
theorem dX6_count_107 : decode cX6_count 107 = .ok (.getfield 44, 3) := by decide +kernel
theorem dX6_count_110 : decode cX6_count 110 = .ok (.getfield 100, 3) := by decide +kernel
theorem dX6_count_113 : decode cX6_count 113 = .ok (.ireturn, 1) := by decide +kernel
theorem dX6_count_114 : decode cX6_count 114 = .ok (.aload_n 0, 1) := by decide +kernel
theorem dX6_count_115 : decode cX6_count 115 = .ok (.getfield 44, 3) := by decide +kernel
theorem dX6_count_118 : decode cX6_count 118 = .ok (.getfield 276, 3) := by decide +kernel
theorem dX6_count_121 : decode cX6_count 121 = .ok (.ireturn, 1) := by decide +kernel
theorem dX6_count_122 : decode cX6_count 122 = .ok (.aload_n 0, 1) := by decide +kernel
theorem dX6_count_123 : decode cX6_count 123 = .ok (.getfield 44, 3) := by decide +kernel
theorem dX6_count_126 : decode cX6_count 126 = .ok (.getfield 48, 3) := by decide +kernel
theorem dX6_count_129 : decode cX6_count 129 = .ok (.getfield 85, 3) := by decide +kernel
theorem dX6_count_132 : decode cX6_count 132 = .ok (.invokestatic 279, 3) := by decide +kernel
theorem dX6_count_135 : decode cX6_count 135 = .ok (.ireturn, 1) := by decide +kernel
theorem dX6_count_136 : decode cX6_count 136 = .ok (.aload_n 0, 1) := by decide +kernel
theorem dX6_count_137 : decode cX6_count 137 = .ok (.getfield 44, 3) := by decide +kernel
theorem dX6_count_140 : decode cX6_count 140 = .ok (.getfield 48, 3) := by decide +kernel
theorem dX6_count_143 : decode cX6_count 143 = .ok (.getfield 103, 3) := by decide +kernel
theorem dX6_count_146 : decode cX6_count 146 = .ok (.invokestatic 279, 3) := by decide +kernel
theorem dX6_count_149 : decode cX6_count 149 = .ok (.ireturn, 1) := by decide +kernel
theorem dX6_count_150 : decode cX6_count 150 = .ok (.aload_n 0, 1) := by decide +kernel
theorem dX6_count_151 : decode cX6_count 151 = .ok (.getfield 44, 3) := by decide +kernel
theorem dX6_count_154 : decode cX6_count 154 = .ok (.getfield 48, 3) := by decide +kernel
theorem dX6_count_157 : decode cX6_count 157 = .ok (.getfield 106, 3) := by decide +kernel
theorem dX6_count_160 : decode cX6_count 160 = .ok (.invokestatic 279, 3) := by decide +kernel
theorem dX6_count_163 : decode cX6_count 163 = .ok (.ireturn, 1) := by decide +kernel
theorem dX6_count_164 : decode cX6_count 164 = .ok (.aload_n 0, 1) := by decide +kernel
theorem dX6_count_165 : decode cX6_count 165 = .ok (.getfield 44, 3) := by decide +kernel
theorem dX6_count_168 : decode cX6_count 168 = .ok (.getfield 121, 3) := by decide +kernel
theorem dX6_count_171 : decode cX6_count 171 = .ok (.iconst 3, 1) := by decide +kernel
theorem dX6_count_172 : decode cX6_count 172 = .ok (.invokevirtual 283, 3) := by decide +kernel
theorem dX6_count_175 : decode cX6_count 175 = .ok (.ireturn, 1) := by decide +kernel
theorem dX6_count_176 : decode cX6_count 176 = .ok (.aload_n 0, 1) := by decide +kernel
theorem dX6_count_177 : decode cX6_count 177 = .ok (.getfield 44, 3) := by decide +kernel
theorem dX6_count_180 : decode cX6_count 180 = .ok (.getfield 121, 3) := by decide +kernel
theorem dX6_count_183 : decode cX6_count 183 = .ok (.iconst 4, 1) := by decide +kernel
theorem dX6_count_184 : decode cX6_count 184 = .ok (.invokevirtual 283, 3) := by decide +kernel
theorem dX6_count_187 : decode cX6_count 187 = .ok (.ireturn, 1) := by decide +kernel
theorem dX6_count_188 : decode cX6_count 188 = .ok (.aload_n 0, 1) := by decide +kernel
theorem dX6_count_189 : decode cX6_count 189 = .ok (.getfield 44, 3) := by decide +kernel
theorem dX6_count_192 : decode cX6_count 192 = .ok (.getfield 238, 3) := by decide +kernel
theorem dX6_count_195 : decode cX6_count 195 = .ok (.ireturn, 1) := by decide +kernel
theorem dX6_count_196 : decode cX6_count 196 = .ok (.aload_n 0, 1) := by decide +kernel
theorem dX6_count_197 : decode cX6_count 197 = .ok (.getfield 44, 3) := by decide +kernel
theorem dX6_count_200 : decode cX6_count 200 = .ok (.getfield 48, 3) := by decide +kernel
theorem dX6_count_203 : decode cX6_count 203 = .ok (.invokevirtual 286, 3) := by decide +kernel
theorem dX6_count_206 : decode cX6_count 206 = .ok (.ireturn, 1) := by decide +kernel
theorem dX6_count_207 : decode cX6_count 207 = .ok (.aload_n 0, 1) := by decide +kernel
theorem dX6_count_208 : decode cX6_count 208 = .ok (.getfield 44, 3) := by decide +kernel
theorem dX6_count_211 : decode cX6_count 211 = .ok (.getfield 222, 3) := by decide +kernel
theorem dX6_count_214 : decode cX6_count 214 = .ok (.ireturn, 1) := by decide +kernel
theorem dX6_count_215 : decode cX6_count 215 = .ok (.aload_n 0, 1) := by decide +kernel
theorem dX6_count_216 : decode cX6_count 216 = .ok (.getfield 250, 3) := by decide +kernel
theorem dX6_count_219 : decode cX6_count 219 = .ok (.ireturn, 1) := by decide +kernel
theorem dX6_setting_0 : decode cX6_setting 0 = .ok (.iload_n 1, 1) := by decide +kernel
theorem dX6_setting_1 : decode cX6_setting 1 = .ok (.invokestatic 109, 3) := by decide +kernel
theorem dX6_setting_4 : decode cX6_setting 4 = .ok (.aload_n 0, 1) := by decide +kernel
theorem dX6_setting_5 : decode cX6_setting 5 = .ok (.getfield 44, 3) := by decide +kernel
theorem dX6_setting_8 : decode cX6_setting 8 = .ok (.getfield 115, 3) := by decide +kernel
theorem dX6_setting_11 : decode cX6_setting 11 = .ok (.iload_n 1, 1) := by decide +kernel
theorem dX6_setting_12 : decode cX6_setting 12 = .ok (.iaload, 1) := by decide +kernel
theorem dX6_setting_13 : decode cX6_setting 13 = .ok (.ireturn, 1) := by decide +kernel
theorem dX6_ifPaid_0 : decode cX6_ifPaid 0 = .ok (.aload_n 0, 1) := by decide +kernel
theorem dX6_ifPaid_1 : decode cX6_ifPaid 1 = .ok (.iload_n 1, 1) := by decide +kernel
theorem dX6_ifPaid_2 : decode cX6_ifPaid 2 = .ok (.invokevirtual 143, 3) := by decide +kernel
theorem dX6_ifPaid_5 : decode cX6_ifPaid 5 = .ok (.aload_n 0, 1) := by decide +kernel
theorem dX6_ifPaid_6 : decode cX6_ifPaid 6 = .ok (.iload_n 3, 1) := by decide +kernel
theorem dX6_ifPaid_7 : decode cX6_ifPaid 7 = .ok (.invokevirtual 71, 3) := by decide +kernel
theorem dX6_ifPaid_10 : decode cX6_ifPaid 10 = .ok (.iload_n 2, 1) := by decide +kernel
theorem dX6_ifPaid_11 : decode cX6_ifPaid 11 = .ok (.iconst 1, 1) := by decide +kernel
theorem dX6_ifPaid_12 : decode cX6_ifPaid 12 = .ok (.ldc 75, 2) := by decide +kernel
theorem dX6_ifPaid_14 : decode cX6_ifPaid 14 = .ok (.invokestatic 76, 3) := by decide +kernel
theorem dX6_ifPaid_17 : decode cX6_ifPaid 17 = .ok (.aload_n 0, 1) := by decide +kernel
theorem dX6_ifPaid_18 : decode cX6_ifPaid 18 = .ok (.iload_n 1, 1) := by decide +kernel
theorem dX6_ifPaid_19 : decode cX6_ifPaid 19 = .ok (.invokevirtual 207, 3) := by decide +kernel
theorem dX6_ifPaid_22 : decode cX6_ifPaid 22 = .ok (.aload_n 0, 1) := by decide +kernel
theorem dX6_ifPaid_23 : decode cX6_ifPaid 23 = .ok (.getfield 25, 3) := by decide +kernel
theorem dX6_ifPaid_26 : decode cX6_ifPaid 26 = .ok (.aload_n 0, 1) := by decide +kernel
theorem dX6_ifPaid_27 : decode cX6_ifPaid 27 = .ok (.getfield 44, 3) := by decide +kernel
theorem dX6_ifPaid_30 : decode cX6_ifPaid 30 = .ok (.iload_n 1, 1) := by decide +kernel
theorem dX6_ifPaid_31 : decode cX6_ifPaid 31 = .ok (.iload_n 2, 1) := by decide +kernel
theorem dX6_ifPaid_32 : decode cX6_ifPaid 32 = .ok (.invokevirtual 210, 3) := by decide +kernel
theorem dX6_ifPaid_35 : decode cX6_ifPaid 35 = .ok (.aload_n 0, 1) := by decide +kernel
theorem dX6_ifPaid_36 : decode cX6_ifPaid 36 = .ok (.iload_n 3, 1) := by decide +kernel
theorem dX6_ifPaid_37 : decode cX6_ifPaid 37 = .ok (.invokevirtual 289, 3) := by decide +kernel
theorem dX6_ifPaid_40 : decode cX6_ifPaid 40 = .ok (.ireturn, 1) := by decide +kernel
theorem dX6_fairest_0 : decode cX6_fairest 0 = .ok (.aload_n 0, 1) := by decide +kernel
theorem dX6_fairest_1 : decode cX6_fairest 1 = .ok (.iload_n 1, 1) := by decide +kernel
theorem dX6_fairest_2 : decode cX6_fairest 2 = .ok (.invokevirtual 143, 3) := by decide +kernel
theorem dX6_fairest_5 : decode cX6_fairest 5 = .ok (.aload_n 0, 1) := by decide +kernel
theorem dX6_fairest_6 : decode cX6_fairest 6 = .ok (.iload_n 2, 1) := by decide +kernel
theorem dX6_fairest_7 : decode cX6_fairest 7 = .ok (.invokevirtual 71, 3) := by decide +kernel
theorem dX6_fairest_10 : decode cX6_fairest 10 = .ok (.aload_n 0, 1) := by decide +kernel
theorem dX6_fairest_11 : decode cX6_fairest 11 = .ok (.getfield 32, 3) := by decide +kernel
theorem dX6_fairest_14 : decode cX6_fairest 14 = .ok (.aload_n 0, 1) := by decide +kernel
theorem dX6_fairest_15 : decode cX6_fairest 15 = .ok (.getfield 44, 3) := by decide +kernel
theorem dX6_fairest_18 : decode cX6_fairest 18 = .ok (.getfield 121, 3) := by decide +kernel
theorem dX6_fairest_21 : decode cX6_fairest 21 = .ok (.iload_n 1, 1) := by decide +kernel
theorem dX6_fairest_22 : decode cX6_fairest 22 = .ok (.invokevirtual 292, 3) := by decide +kernel
theorem dX6_fairest_25 : decode cX6_fairest 25 = .ok (.aload_n 0, 1) := by decide +kernel
theorem dX6_fairest_26 : decode cX6_fairest 26 = .ok (.getfield 32, 3) := by decide +kernel
theorem dX6_fairest_29 : decode cX6_fairest 29 = .ok (.getfield 296, 3) := by decide +kernel
theorem dX6_fairest_32 : decode cX6_fairest 32 = .ok (.iload_n 2, 1) := by decide +kernel
theorem dX6_fairest_33 : decode cX6_fairest 33 = .ok (.iaload, 1) := by decide +kernel
theorem dX6_fairest_34 : decode cX6_fairest 34 = .ok (.ireturn, 1) := by decide +kernel
theorem dX6_bestPiece_0 : decode cX6_bestPiece 0 = .ok (.aload_n 0, 1) := by decide +kernel
theorem dX6_bestPiece_1 : decode cX6_bestPiece 1 = .ok (.iload_n 1, 1) := by decide +kernel
theorem dX6_bestPiece_2 : decode cX6_bestPiece 2 = .ok (.invokevirtual 71, 3) := by decide +kernel
theorem dX6_bestPiece_5 : decode cX6_bestPiece 5 = .ok (.iload_n 2, 1) := by decide +kernel
theorem dX6_bestPiece_6 : decode cX6_bestPiece 6 = .ok (.iconst 1, 1) := by decide +kernel
theorem dX6_bestPiece_7 : decode cX6_bestPiece 7 = .ok (.ldc 75, 2) := by decide +kernel
theorem dX6_bestPiece_9 : decode cX6_bestPiece 9 = .ok (.invokestatic 76, 3) := by decide +kernel
theorem dX6_bestPiece_12 : decode cX6_bestPiece 12 = .ok (.aload_n 0, 1) := by decide +kernel
theorem dX6_bestPiece_13 : decode cX6_bestPiece 13 = .ok (.iload_n 2, 1) := by decide +kernel
theorem dX6_bestPiece_14 : decode cX6_bestPiece 14 = .ok (.invokevirtual 297, 3) := by decide +kernel
theorem dX6_bestPiece_17 : decode cX6_bestPiece 17 = .ok (.aload_n 0, 1) := by decide +kernel
theorem dX6_bestPiece_18 : decode cX6_bestPiece 18 = .ok (.getfield 36, 3) := by decide +kernel
theorem dX6_bestPiece_21 : decode cX6_bestPiece 21 = .ok (.iload_n 1, 1) := by decide +kernel
theorem dX6_bestPiece_22 : decode cX6_bestPiece 22 = .ok (.iaload, 1) := by decide +kernel
theorem dX6_bestPiece_23 : decode cX6_bestPiece 23 = .ok (.ireturn, 1) := by decide +kernel
theorem dX6_spread_0 : decode cX6_spread 0 = .ok (.aload_n 0, 1) := by decide +kernel
theorem dX6_spread_1 : decode cX6_spread 1 = .ok (.getfield 44, 3) := by decide +kernel
theorem dX6_spread_4 : decode cX6_spread 4 = .ok (.getfield 48, 3) := by decide +kernel
theorem dX6_spread_7 : decode cX6_spread 7 = .ok (.getfield 85, 3) := by decide +kernel
theorem dX6_spread_10 : decode cX6_spread 10 = .ok (.invokestatic 279, 3) := by decide +kernel
theorem dX6_spread_13 : decode cX6_spread 13 = .ok (.istore_n 1, 1) := by decide +kernel
theorem dX6_spread_14 : decode cX6_spread 14 = .ok (.iload_n 1, 1) := by decide +kernel
theorem dX6_spread_15 : decode cX6_spread 15 = .ok (.ifCond .ne 5, 3) := by decide +kernel
theorem dX6_spread_18 : decode cX6_spread 18 = .ok (.dconst 0, 1) := by decide +kernel
theorem dX6_spread_19 : decode cX6_spread 19 = .ok (.dreturn, 1) := by decide +kernel
theorem dX6_spread_20 : decode cX6_spread 20 = .ok (.aload_n 0, 1) := by decide +kernel
theorem dX6_spread_21 : decode cX6_spread 21 = .ok (.getfield 44, 3) := by decide +kernel
theorem dX6_spread_24 : decode cX6_spread 24 = .ok (.getfield 48, 3) := by decide +kernel
theorem dX6_spread_27 : decode cX6_spread 27 = .ok (.invokevirtual 300, 3) := by decide +kernel
theorem dX6_spread_30 : decode cX6_spread 30 = .ok (.i2d, 1) := by decide +kernel
theorem dX6_spread_31 : decode cX6_spread 31 = .ok (.aload_n 0, 1) := by decide +kernel
theorem dX6_spread_32 : decode cX6_spread 32 = .ok (.getfield 44, 3) := by decide +kernel
theorem dX6_spread_35 : decode cX6_spread 35 = .ok (.getfield 48, 3) := by decide +kernel
theorem dX6_spread_38 : decode cX6_spread 38 = .ok (.getfield 52, 3) := by decide +kernel
theorem dX6_spread_41 : decode cX6_spread 41 = .ok (.i2d, 1) := by decide +kernel
theorem dX6_spread_42 : decode cX6_spread 42 = .ok (.iload_n 1, 1) := by decide +kernel
theorem dX6_spread_43 : decode cX6_spread 43 = .ok (.i2d, 1) := by decide +kernel
theorem dX6_spread_44 : decode cX6_spread 44 = .ok (.dmul, 1) := by decide +kernel
theorem dX6_spread_45 : decode cX6_spread 45 = .ok (.ddiv, 1) := by decide +kernel
theorem dX6_spread_46 : decode cX6_spread 46 = .ok (.dreturn, 1) := by decide +kernel
theorem dX6_digest_0 : decode cX6_digest 0 = .ok (.ldc2_w 303, 3) := by decide +kernel
theorem dX6_digest_3 : decode cX6_digest 3 = .ok (.lstore_n 1, 1) := by decide +kernel
theorem dX6_digest_4 : decode cX6_digest 4 = .ok (.iconst 0, 1) := by decide +kernel
theorem dX6_digest_5 : decode cX6_digest 5 = .ok (.istore_n 3, 1) := by decide +kernel
theorem dX6_digest_6 : decode cX6_digest 6 = .ok (.iload_n 3, 1) := by decide +kernel
theorem dX6_digest_7 : decode cX6_digest 7 = .ok (.bipush 14, 2) := by decide +kernel
theorem dX6_digest_9 : decode cX6_digest 9 = .ok (.if_icmp .ge 20, 3) := by decide +kernel
theorem dX6_digest_12 : decode cX6_digest 12 = .ok (.lload_n 1, 1) := by decide +kernel
theorem dX6_digest_13 : decode cX6_digest 13 = .ok (.aload_n 0, 1) := by decide +kernel
theorem dX6_digest_14 : decode cX6_digest 14 = .ok (.iload_n 3, 1) := by decide +kernel
theorem dX6_digest_15 : decode cX6_digest 15 = .ok (.invokevirtual 305, 3) := by decide +kernel
theorem dX6_digest_18 : decode cX6_digest 18 = .ok (.i2l, 1) := by decide +kernel
theorem dX6_digest_19 : decode cX6_digest 19 = .ok (.invokestatic 308, 3) := by decide +kernel
theorem dX6_digest_22 : decode cX6_digest 22 = .ok (.lstore_n 1, 1) := by decide +kernel
theorem dX6_digest_23 : decode cX6_digest 23 = .ok (.iinc 3 1, 3) := by decide +kernel
theorem dX6_digest_26 : decode cX6_digest 26 = .ok (.goto (-20), 3) := by decide +kernel
theorem dX6_digest_29 : decode cX6_digest 29 = .ok (.iconst 0, 1) := by decide +kernel
theorem dX6_digest_30 : decode cX6_digest 30 = .ok (.istore_n 3, 1) := by decide +kernel
theorem dX6_digest_31 : decode cX6_digest 31 = .ok (.iload_n 3, 1) := by decide +kernel
theorem dX6_digest_32 : decode cX6_digest 32 = .ok (.bipush 6, 2) := by decide +kernel
theorem dX6_digest_34 : decode cX6_digest 34 = .ok (.if_icmp .ge 24, 3) := by decide +kernel
theorem dX6_digest_37 : decode cX6_digest 37 = .ok (.lload_n 1, 1) := by decide +kernel
theorem dX6_digest_38 : decode cX6_digest 38 = .ok (.aload_n 0, 1) := by decide +kernel
theorem dX6_digest_39 : decode cX6_digest 39 = .ok (.getfield 44, 3) := by decide +kernel
theorem dX6_digest_42 : decode cX6_digest 42 = .ok (.getfield 115, 3) := by decide +kernel
theorem dX6_digest_45 : decode cX6_digest 45 = .ok (.iload_n 3, 1) := by decide +kernel
theorem dX6_digest_46 : decode cX6_digest 46 = .ok (.iaload, 1) := by decide +kernel
theorem dX6_digest_47 : decode cX6_digest 47 = .ok (.i2l, 1) := by decide +kernel
theorem dX6_digest_48 : decode cX6_digest 48 = .ok (.invokestatic 308, 3) := by decide +kernel
theorem dX6_digest_51 : decode cX6_digest 51 = .ok (.lstore_n 1, 1) := by decide +kernel
theorem dX6_digest_52 : decode cX6_digest 52 = .ok (.iinc 3 1, 3) := by decide +kernel
theorem dX6_digest_55 : decode cX6_digest 55 = .ok (.goto (-24), 3) := by decide +kernel
theorem dX6_digest_58 : decode cX6_digest 58 = .ok (.aload_n 0, 1) := by decide +kernel
theorem dX6_digest_59 : decode cX6_digest 59 = .ok (.bipush 100, 2) := by decide +kernel
theorem dX6_digest_61 : decode cX6_digest 61 = .ok (.invokevirtual 297, 3) := by decide +kernel
theorem dX6_digest_64 : decode cX6_digest 64 = .ok (.iconst 0, 1) := by decide +kernel
theorem dX6_digest_65 : decode cX6_digest 65 = .ok (.istore_n 3, 1) := by decide +kernel
theorem dX6_digest_66 : decode cX6_digest 66 = .ok (.iload_n 3, 1) := by decide +kernel
theorem dX6_digest_67 : decode cX6_digest 67 = .ok (.aload_n 0, 1) := by decide +kernel
theorem dX6_digest_68 : decode cX6_digest 68 = .ok (.getfield 44, 3) := by decide +kernel
theorem dX6_digest_71 : decode cX6_digest 71 = .ok (.getfield 48, 3) := by decide +kernel
theorem dX6_digest_74 : decode cX6_digest 74 = .ok (.getfield 52, 3) := by decide +kernel
theorem dX6_digest_77 : decode cX6_digest 77 = .ok (.if_icmp .ge 16, 3) := by decide +kernel
theorem dX6_digest_80 : decode cX6_digest 80 = .ok (.aload_n 0, 1) := by decide +kernel
theorem dX6_digest_81 : decode cX6_digest 81 = .ok (.lload_n 1, 1) := by decide +kernel
theorem dX6_digest_82 : decode cX6_digest 82 = .ok (.iload_n 3, 1) := by decide +kernel
theorem dX6_digest_83 : decode cX6_digest 83 = .ok (.invokevirtual 312, 3) := by decide +kernel
theorem dX6_digest_86 : decode cX6_digest 86 = .ok (.lstore_n 1, 1) := by decide +kernel
theorem dX6_digest_87 : decode cX6_digest 87 = .ok (.iinc 3 1, 3) := by decide +kernel
theorem dX6_digest_90 : decode cX6_digest 90 = .ok (.goto (-24), 3) := by decide +kernel
theorem dX6_digest_93 : decode cX6_digest 93 = .ok (.iconst 0, 1) := by decide +kernel
theorem dX6_digest_94 : decode cX6_digest 94 = .ok (.istore_n 3, 1) := by decide +kernel
theorem dX6_digest_95 : decode cX6_digest 95 = .ok (.iload_n 3, 1) := by decide +kernel
theorem dX6_digest_96 : decode cX6_digest 96 = .ok (.aload_n 0, 1) := by decide +kernel
theorem dX6_digest_97 : decode cX6_digest 97 = .ok (.getfield 44, 3) := by decide +kernel
theorem dX6_digest_100 : decode cX6_digest 100 = .ok (.getfield 121, 3) := by decide +kernel
theorem dX6_digest_103 : decode cX6_digest 103 = .ok (.getfield 136, 3) := by decide +kernel
theorem dX6_digest_106 : decode cX6_digest 106 = .ok (.if_icmp .ge 16, 3) := by decide +kernel
theorem dX6_digest_109 : decode cX6_digest 109 = .ok (.aload_n 0, 1) := by decide +kernel
theorem dX6_digest_110 : decode cX6_digest 110 = .ok (.lload_n 1, 1) := by decide +kernel
theorem dX6_digest_111 : decode cX6_digest 111 = .ok (.iload_n 3, 1) := by decide +kernel
theorem dX6_digest_112 : decode cX6_digest 112 = .ok (.invokevirtual 316, 3) := by decide +kernel
theorem dX6_digest_115 : decode cX6_digest 115 = .ok (.lstore_n 1, 1) := by decide +kernel
theorem dX6_digest_116 : decode cX6_digest 116 = .ok (.iinc 3 1, 3) := by decide +kernel
theorem dX6_digest_119 : decode cX6_digest 119 = .ok (.goto (-24), 3) := by decide +kernel
theorem dX6_digest_122 : decode cX6_digest 122 = .ok (.lload_n 1, 1) := by decide +kernel
theorem dX6_digest_123 : decode cX6_digest 123 = .ok (.aload_n 0, 1) := by decide +kernel
theorem dX6_digest_124 : decode cX6_digest 124 = .ok (.invokevirtual 319, 3) := by decide +kernel
theorem dX6_digest_127 : decode cX6_digest 127 = .ok (.invokestatic 323, 3) := by decide +kernel
theorem dX6_digest_130 : decode cX6_digest 130 = .ok (.invokestatic 308, 3) := by decide +kernel
theorem dX6_digest_133 : decode cX6_digest 133 = .ok (.lstore_n 1, 1) := by decide +kernel
theorem dX6_digest_134 : decode cX6_digest 134 = .ok (.lload_n 1, 1) := by decide +kernel
theorem dX6_digest_135 : decode cX6_digest 135 = .ok (.aload_n 0, 1) := by decide +kernel
theorem dX6_digest_136 : decode cX6_digest 136 = .ok (.getfield 18, 3) := by decide +kernel
theorem dX6_digest_139 : decode cX6_digest 139 = .ok (.getfield 189, 3) := by decide +kernel
theorem dX6_digest_142 : decode cX6_digest 142 = .ok (.i2l, 1) := by decide +kernel
theorem dX6_digest_143 : decode cX6_digest 143 = .ok (.invokestatic 308, 3) := by decide +kernel
theorem dX6_digest_146 : decode cX6_digest 146 = .ok (.lstore_n 1, 1) := by decide +kernel
theorem dX6_digest_147 : decode cX6_digest 147 = .ok (.iconst 0, 1) := by decide +kernel
theorem dX6_digest_148 : decode cX6_digest 148 = .ok (.istore_n 3, 1) := by decide +kernel
theorem dX6_digest_149 : decode cX6_digest 149 = .ok (.iload_n 3, 1) := by decide +kernel
theorem dX6_digest_150 : decode cX6_digest 150 = .ok (.aload_n 0, 1) := by decide +kernel
theorem dX6_digest_151 : decode cX6_digest 151 = .ok (.getfield 18, 3) := by decide +kernel
theorem dX6_digest_154 : decode cX6_digest 154 = .ok (.getfield 189, 3) := by decide +kernel
theorem dX6_digest_157 : decode cX6_digest 157 = .ok (.if_icmp .ge 24, 3) := by decide +kernel
theorem dX6_digest_160 : decode cX6_digest 160 = .ok (.lload_n 1, 1) := by decide +kernel
theorem dX6_digest_161 : decode cX6_digest 161 = .ok (.aload_n 0, 1) := by decide +kernel
theorem dX6_digest_162 : decode cX6_digest 162 = .ok (.getfield 18, 3) := by decide +kernel
theorem dX6_digest_165 : decode cX6_digest 165 = .ok (.getfield 244, 3) := by decide +kernel
theorem dX6_digest_168 : decode cX6_digest 168 = .ok (.iload_n 3, 1) := by decide +kernel
theorem dX6_digest_169 : decode cX6_digest 169 = .ok (.iaload, 1) := by decide +kernel
theorem dX6_digest_170 : decode cX6_digest 170 = .ok (.i2l, 1) := by decide +kernel
theorem dX6_digest_171 : decode cX6_digest 171 = .ok (.invokestatic 308, 3) := by decide +kernel
theorem dX6_digest_174 : decode cX6_digest 174 = .ok (.lstore_n 1, 1) := by decide +kernel
theorem dX6_digest_175 : decode cX6_digest 175 = .ok (.iinc 3 1, 3) := by decide +kernel
theorem dX6_digest_178 : decode cX6_digest 178 = .ok (.goto (-29), 3) := by decide +kernel
theorem dX6_digest_181 : decode cX6_digest 181 = .ok (.lload_n 1, 1) := by decide +kernel
theorem dX6_digest_182 : decode cX6_digest 182 = .ok (.lreturn, 1) := by decide +kernel
theorem dX6_needPen_0 : decode cX6_needPen 0 = .ok (.iload_n 1, 1) := by decide +kernel
theorem dX6_needPen_1 : decode cX6_needPen 1 = .ok (.ifCond .lt 17, 3) := by decide +kernel
theorem dX6_needPen_4 : decode cX6_needPen 4 = .ok (.iload_n 1, 1) := by decide +kernel
theorem dX6_needPen_5 : decode cX6_needPen 5 = .ok (.aload_n 0, 1) := by decide +kernel
theorem dX6_needPen_6 : decode cX6_needPen 6 = .ok (.getfield 44, 3) := by decide +kernel
theorem dX6_needPen_9 : decode cX6_needPen 9 = .ok (.getfield 48, 3) := by decide +kernel
theorem dX6_needPen_12 : decode cX6_needPen 12 = .ok (.getfield 52, 3) := by decide +kernel
theorem dX6_needPen_15 : decode cX6_needPen 15 = .ok (.if_icmp .lt 14, 3) := by decide +kernel
theorem dX6_needPen_18 : decode cX6_needPen 18 = .ok (.new 327, 3) := by decide +kernel
theorem dX6_needPen_21 : decode cX6_needPen 21 = .ok (.dup, 1) := by decide +kernel
theorem dX6_needPen_22 : decode cX6_needPen 22 = .ok (.ldc_w 329, 3) := by decide +kernel
theorem dX6_needPen_25 : decode cX6_needPen 25 = .ok (.invokespecial 331, 3) := by decide +kernel
theorem dX6_needPen_28 : decode cX6_needPen 28 = .ok (.athrow, 1) := by decide +kernel
theorem dX6_needPen_29 : decode cX6_needPen 29 = .ok (.return_, 1) := by decide +kernel
theorem dX6_needPiece_0 : decode cX6_needPiece 0 = .ok (.iload_n 1, 1) := by decide +kernel
theorem dX6_needPiece_1 : decode cX6_needPiece 1 = .ok (.ifCond .lt 17, 3) := by decide +kernel
theorem dX6_needPiece_4 : decode cX6_needPiece 4 = .ok (.iload_n 1, 1) := by decide +kernel
theorem dX6_needPiece_5 : decode cX6_needPiece 5 = .ok (.aload_n 0, 1) := by decide +kernel
theorem dX6_needPiece_6 : decode cX6_needPiece 6 = .ok (.getfield 44, 3) := by decide +kernel
theorem dX6_needPiece_9 : decode cX6_needPiece 9 = .ok (.getfield 121, 3) := by decide +kernel
theorem dX6_needPiece_12 : decode cX6_needPiece 12 = .ok (.getfield 136, 3) := by decide +kernel
theorem dX6_needPiece_15 : decode cX6_needPiece 15 = .ok (.if_icmp .lt 14, 3) := by decide +kernel
theorem dX6_needPiece_18 : decode cX6_needPiece 18 = .ok (.new 327, 3) := by decide +kernel
theorem dX6_needPiece_21 : decode cX6_needPiece 21 = .ok (.dup, 1) := by decide +kernel
theorem dX6_needPiece_22 : decode cX6_needPiece 22 = .ok (.ldc_w 332, 3) := by decide +kernel
theorem dX6_needPiece_25 : decode cX6_needPiece 25 = .ok (.invokespecial 331, 3) := by decide +kernel
theorem dX6_needPiece_28 : decode cX6_needPiece 28 = .ok (.athrow, 1) := by decide +kernel
theorem dX6_needPiece_29 : decode cX6_needPiece 29 = .ok (.return_, 1) := by decide +kernel
theorem dX6_needSetting_0 : decode cX6_needSetting 0 = .ok (.iload_n 0, 1) := by decide +kernel
theorem dX6_needSetting_1 : decode cX6_needSetting 1 = .ok (.ifCond .lt 9, 3) := by decide +kernel
theorem dX6_needSetting_4 : decode cX6_needSetting 4 = .ok (.iload_n 0, 1) := by decide +kernel
theorem dX6_needSetting_5 : decode cX6_needSetting 5 = .ok (.bipush 6, 2) := by decide +kernel
theorem dX6_needSetting_7 : decode cX6_needSetting 7 = .ok (.if_icmp .lt 14, 3) := by decide +kernel
theorem dX6_needSetting_10 : decode cX6_needSetting 10 = .ok (.new 327, 3) := by decide +kernel
theorem dX6_needSetting_13 : decode cX6_needSetting 13 = .ok (.dup, 1) := by decide +kernel
theorem dX6_needSetting_14 : decode cX6_needSetting 14 = .ok (.ldc_w 334, 3) := by decide +kernel
theorem dX6_needSetting_17 : decode cX6_needSetting 17 = .ok (.invokespecial 331, 3) := by decide +kernel
theorem dX6_needSetting_20 : decode cX6_needSetting 20 = .ok (.athrow, 1) := by decide +kernel
theorem dX6_needSetting_21 : decode cX6_needSetting 21 = .ok (.return_, 1) := by decide +kernel
theorem dX6_needRange_0 : decode cX6_needRange 0 = .ok (.iload_n 0, 1) := by decide +kernel
theorem dX6_needRange_1 : decode cX6_needRange 1 = .ok (.iload_n 1, 1) := by decide +kernel
theorem dX6_needRange_2 : decode cX6_needRange 2 = .ok (.if_icmp .lt 8, 3) := by decide +kernel
theorem dX6_needRange_5 : decode cX6_needRange 5 = .ok (.iload_n 0, 1) := by decide +kernel
theorem dX6_needRange_6 : decode cX6_needRange 6 = .ok (.iload_n 2, 1) := by decide +kernel
theorem dX6_needRange_7 : decode cX6_needRange 7 = .ok (.if_icmp .le 14, 3) := by decide +kernel
theorem dX6_needRange_10 : decode cX6_needRange 10 = .ok (.new 80, 3) := by decide +kernel
theorem dX6_needRange_13 : decode cX6_needRange 13 = .ok (.dup, 1) := by decide +kernel
theorem dX6_needRange_14 : decode cX6_needRange 14 = .ok (.ldc_w 336, 3) := by decide +kernel
theorem dX6_needRange_17 : decode cX6_needRange 17 = .ok (.invokespecial 84, 3) := by decide +kernel
theorem dX6_needRange_20 : decode cX6_needRange 20 = .ok (.athrow, 1) := by decide +kernel
theorem dX6_needRange_21 : decode cX6_needRange 21 = .ok (.return_, 1) := by decide +kernel
theorem dX6_needAtLeast_0 : decode cX6_needAtLeast 0 = .ok (.iload_n 0, 1) := by decide +kernel
theorem dX6_needAtLeast_1 : decode cX6_needAtLeast 1 = .ok (.iload_n 1, 1) := by decide +kernel
theorem dX6_needAtLeast_2 : decode cX6_needAtLeast 2 = .ok (.if_icmp .ge 14, 3) := by decide +kernel
theorem dX6_needAtLeast_5 : decode cX6_needAtLeast 5 = .ok (.new 58, 3) := by decide +kernel
theorem dX6_needAtLeast_8 : decode cX6_needAtLeast 8 = .ok (.dup, 1) := by decide +kernel
theorem dX6_needAtLeast_9 : decode cX6_needAtLeast 9 = .ok (.ldc_w 338, 3) := by decide +kernel
theorem dX6_needAtLeast_12 : decode cX6_needAtLeast 12 = .ok (.invokespecial 62, 3) := by decide +kernel
theorem dX6_needAtLeast_15 : decode cX6_needAtLeast 15 = .ok (.athrow, 1) := by decide +kernel
theorem dX6_needAtLeast_16 : decode cX6_needAtLeast 16 = .ok (.return_, 1) := by decide +kernel
theorem dX6_needUnended_0 : decode cX6_needUnended 0 = .ok (.aload_n 0, 1) := by decide +kernel
theorem dX6_needUnended_1 : decode cX6_needUnended 1 = .ok (.getfield 44, 3) := by decide +kernel
theorem dX6_needUnended_4 : decode cX6_needUnended 4 = .ok (.getfield 121, 3) := by decide +kernel
theorem dX6_needUnended_7 : decode cX6_needUnended 7 = .ok (.getfield 161, 3) := by decide +kernel
theorem dX6_needUnended_10 : decode cX6_needUnended 10 = .ok (.iload_n 1, 1) := by decide +kernel
theorem dX6_needUnended_11 : decode cX6_needUnended 11 = .ok (.iaload, 1) := by decide +kernel
theorem dX6_needUnended_12 : decode cX6_needUnended 12 = .ok (.iconst 3, 1) := by decide +kernel
theorem dX6_needUnended_13 : decode cX6_needUnended 13 = .ok (.if_icmp .lt 14, 3) := by decide +kernel
theorem dX6_needUnended_16 : decode cX6_needUnended 16 = .ok (.new 58, 3) := by decide +kernel
theorem dX6_needUnended_19 : decode cX6_needUnended 19 = .ok (.dup, 1) := by decide +kernel
theorem dX6_needUnended_20 : decode cX6_needUnended 20 = .ok (.ldc_w 340, 3) := by decide +kernel
theorem dX6_needUnended_23 : decode cX6_needUnended 23 = .ok (.invokespecial 62, 3) := by decide +kernel
theorem dX6_needUnended_26 : decode cX6_needUnended 26 = .ok (.athrow, 1) := by decide +kernel
theorem dX6_needUnended_27 : decode cX6_needUnended 27 = .ok (.return_, 1) := by decide +kernel
theorem dX6_needAccepted_0 : decode cX6_needAccepted 0 = .ok (.aload_n 0, 1) := by decide +kernel
theorem dX6_needAccepted_1 : decode cX6_needAccepted 1 = .ok (.getfield 44, 3) := by decide +kernel
theorem dX6_needAccepted_4 : decode cX6_needAccepted 4 = .ok (.getfield 121, 3) := by decide +kernel
theorem dX6_needAccepted_7 : decode cX6_needAccepted 7 = .ok (.getfield 161, 3) := by decide +kernel
theorem dX6_needAccepted_10 : decode cX6_needAccepted 10 = .ok (.iload_n 1, 1) := by decide +kernel
theorem dX6_needAccepted_11 : decode cX6_needAccepted 11 = .ok (.iaload, 1) := by decide +kernel
theorem dX6_needAccepted_12 : decode cX6_needAccepted 12 = .ok (.iconst 3, 1) := by decide +kernel
theorem dX6_needAccepted_13 : decode cX6_needAccepted 13 = .ok (.if_icmp .eq 14, 3) := by decide +kernel
theorem dX6_needAccepted_16 : decode cX6_needAccepted 16 = .ok (.new 58, 3) := by decide +kernel
theorem dX6_needAccepted_19 : decode cX6_needAccepted 19 = .ok (.dup, 1) := by decide +kernel
theorem dX6_needAccepted_20 : decode cX6_needAccepted 20 = .ok (.ldc_w 342, 3) := by decide +kernel
theorem dX6_needAccepted_23 : decode cX6_needAccepted 23 = .ok (.invokespecial 62, 3) := by decide +kernel
theorem dX6_needAccepted_26 : decode cX6_needAccepted 26 = .ok (.athrow, 1) := by decide +kernel
theorem dX6_needAccepted_27 : decode cX6_needAccepted 27 = .ok (.return_, 1) := by decide +kernel
theorem dX6_save_0 : decode cX6_save 0 = .ok (.aload_n 0, 1) := by decide +kernel
theorem dX6_save_1 : decode cX6_save 1 = .ok (.getfield 255, 3) := by decide +kernel
theorem dX6_save_4 : decode cX6_save 4 = .ok (.iconst 1, 1) := by decide +kernel
theorem dX6_save_5 : decode cX6_save 5 = .ok (.iadd, 1) := by decide +kernel
theorem dX6_save_6 : decode cX6_save 6 = .ok (.bipush 7, 2) := by decide +kernel
theorem dX6_save_8 : decode cX6_save 8 = .ok (.irem, 1) := by decide +kernel
theorem dX6_save_9 : decode cX6_save 9 = .ok (.istore_n 1, 1) := by decide +kernel
theorem dX6_save_10 : decode cX6_save 10 = .ok (.aload_n 0, 1) := by decide +kernel
theorem dX6_save_11 : decode cX6_save 11 = .ok (.getfield 11, 3) := by decide +kernel
theorem dX6_save_14 : decode cX6_save 14 = .ok (.iload_n 1, 1) := by decide +kernel
theorem dX6_save_15 : decode cX6_save 15 = .ok (.aaload, 1) := by decide +kernel
theorem dX6_save_16 : decode cX6_save 16 = .ok (.aload_n 0, 1) := by decide +kernel
theorem dX6_save_17 : decode cX6_save 17 = .ok (.getfield 44, 3) := by decide +kernel
theorem dX6_save_20 : decode cX6_save 20 = .ok (.invokevirtual 344, 3) := by decide +kernel
theorem dX6_save_23 : decode cX6_save 23 = .ok (.aload_n 0, 1) := by decide +kernel
theorem dX6_save_24 : decode cX6_save 24 = .ok (.aload_n 0, 1) := by decide +kernel
theorem dX6_save_25 : decode cX6_save 25 = .ok (.getfield 11, 3) := by decide +kernel
theorem dX6_save_28 : decode cX6_save 28 = .ok (.iload_n 1, 1) := by decide +kernel
theorem dX6_save_29 : decode cX6_save 29 = .ok (.aaload, 1) := by decide +kernel
theorem dX6_save_30 : decode cX6_save 30 = .ok (.putfield 44, 3) := by decide +kernel
theorem dX6_save_33 : decode cX6_save 33 = .ok (.aload_n 0, 1) := by decide +kernel
theorem dX6_save_34 : decode cX6_save 34 = .ok (.iload_n 1, 1) := by decide +kernel
theorem dX6_save_35 : decode cX6_save 35 = .ok (.putfield 255, 3) := by decide +kernel
theorem dX6_save_38 : decode cX6_save 38 = .ok (.aload_n 0, 1) := by decide +kernel
theorem dX6_save_39 : decode cX6_save 39 = .ok (.aload_n 0, 1) := by decide +kernel
theorem dX6_save_40 : decode cX6_save 40 = .ok (.getfield 250, 3) := by decide +kernel
theorem dX6_save_43 : decode cX6_save 43 = .ok (.iconst 1, 1) := by decide +kernel
theorem dX6_save_44 : decode cX6_save 44 = .ok (.iadd, 1) := by decide +kernel
theorem dX6_save_45 : decode cX6_save 45 = .ok (.bipush 6, 2) := by decide +kernel
theorem dX6_save_47 : decode cX6_save 47 = .ok (.invokestatic 348, 3) := by decide +kernel
theorem dX6_save_50 : decode cX6_save 50 = .ok (.putfield 250, 3) := by decide +kernel
theorem dX6_save_53 : decode cX6_save 53 = .ok (.return_, 1) := by decide +kernel
theorem dX6_bringIn_0 : decode cX6_bringIn 0 = .ok (.aload_n 0, 1) := by decide +kernel
theorem dX6_bringIn_1 : decode cX6_bringIn 1 = .ok (.getfield 25, 3) := by decide +kernel
theorem dX6_bringIn_4 : decode cX6_bringIn 4 = .ok (.getfield 353, 3) := by decide +kernel
theorem dX6_bringIn_7 : decode cX6_bringIn 7 = .ok (.aload_n 0, 1) := by decide +kernel
theorem dX6_bringIn_8 : decode cX6_bringIn 8 = .ok (.getfield 25, 3) := by decide +kernel
theorem dX6_bringIn_11 : decode cX6_bringIn 11 = .ok (.getfield 225, 3) := by decide +kernel
theorem dX6_bringIn_14 : decode cX6_bringIn 14 = .ok (.iadd, 1) := by decide +kernel
theorem dX6_bringIn_15 : decode cX6_bringIn 15 = .ok (.istore_n 2, 1) := by decide +kernel
theorem dX6_bringIn_16 : decode cX6_bringIn 16 = .ok (.iload_n 2, 1) := by decide +kernel
theorem dX6_bringIn_17 : decode cX6_bringIn 17 = .ok (.aload_n 0, 1) := by decide +kernel
theorem dX6_bringIn_18 : decode cX6_bringIn 18 = .ok (.getfield 44, 3) := by decide +kernel
theorem dX6_bringIn_21 : decode cX6_bringIn 21 = .ok (.getfield 48, 3) := by decide +kernel
theorem dX6_bringIn_24 : decode cX6_bringIn 24 = .ok (.aload_n 0, 1) := by decide +kernel
theorem dX6_bringIn_25 : decode cX6_bringIn 25 = .ok (.getfield 25, 3) := by decide +kernel
theorem dX6_bringIn_28 : decode cX6_bringIn 28 = .ok (.getfield 356, 3) := by decide +kernel
theorem dX6_bringIn_31 : decode cX6_bringIn 31 = .ok (.aload_n 0, 1) := by decide +kernel
theorem dX6_bringIn_32 : decode cX6_bringIn 32 = .ok (.getfield 25, 3) := by decide +kernel
theorem dX6_bringIn_35 : decode cX6_bringIn 35 = .ok (.getfield 359, 3) := by decide +kernel
theorem dX6_bringIn_38 : decode cX6_bringIn 38 = .ok (.invokevirtual 362, 3) := by decide +kernel
theorem dX6_bringIn_41 : decode cX6_bringIn 41 = .ok (.iadd, 1) := by decide +kernel
theorem dX6_bringIn_42 : decode cX6_bringIn 42 = .ok (.istore_n 2, 1) := by decide +kernel
theorem dX6_bringIn_43 : decode cX6_bringIn 43 = .ok (.iconst 0, 1) := by decide +kernel
theorem dX6_bringIn_44 : decode cX6_bringIn 44 = .ok (.istore_n 3, 1) := by decide +kernel
theorem dX6_bringIn_45 : decode cX6_bringIn 45 = .ok (.iload_n 3, 1) := by decide +kernel
theorem dX6_bringIn_46 : decode cX6_bringIn 46 = .ok (.aload_n 0, 1) := by decide +kernel
theorem dX6_bringIn_47 : decode cX6_bringIn 47 = .ok (.getfield 44, 3) := by decide +kernel
theorem dX6_bringIn_50 : decode cX6_bringIn 50 = .ok (.getfield 48, 3) := by decide +kernel
theorem dX6_bringIn_53 : decode cX6_bringIn 53 = .ok (.getfield 52, 3) := by decide +kernel
theorem dX6_bringIn_56 : decode cX6_bringIn 56 = .ok (.if_icmp .ge 32, 3) := by decide +kernel
theorem dX6_bringIn_59 : decode cX6_bringIn 59 = .ok (.iload_n 2, 1) := by decide +kernel
theorem dX6_bringIn_60 : decode cX6_bringIn 60 = .ok (.aload_n 0, 1) := by decide +kernel
theorem dX6_bringIn_61 : decode cX6_bringIn 61 = .ok (.getfield 44, 3) := by decide +kernel
theorem dX6_bringIn_64 : decode cX6_bringIn 64 = .ok (.getfield 48, 3) := by decide +kernel
theorem dX6_bringIn_67 : decode cX6_bringIn 67 = .ok (.iload_n 3, 1) := by decide +kernel
theorem dX6_bringIn_68 : decode cX6_bringIn 68 = .ok (.aload_n 0, 1) := by decide +kernel
theorem dX6_bringIn_69 : decode cX6_bringIn 69 = .ok (.getfield 25, 3) := by decide +kernel
theorem dX6_bringIn_72 : decode cX6_bringIn 72 = .ok (.getfield 216, 3) := by decide +kernel
theorem dX6_bringIn_75 : decode cX6_bringIn 75 = .ok (.iload_n 3, 1) := by decide +kernel
theorem dX6_bringIn_76 : decode cX6_bringIn 76 = .ok (.iaload, 1) := by decide +kernel
theorem dX6_bringIn_77 : decode cX6_bringIn 77 = .ok (.invokevirtual 362, 3) := by decide +kernel
theorem dX6_bringIn_80 : decode cX6_bringIn 80 = .ok (.iadd, 1) := by decide +kernel
theorem dX6_bringIn_81 : decode cX6_bringIn 81 = .ok (.istore_n 2, 1) := by decide +kernel
theorem dX6_bringIn_82 : decode cX6_bringIn 82 = .ok (.iinc 3 1, 3) := by decide +kernel
theorem dX6_bringIn_85 : decode cX6_bringIn 85 = .ok (.goto (-40), 3) := by decide +kernel
theorem dX6_bringIn_88 : decode cX6_bringIn 88 = .ok (.aload_n 0, 1) := by decide +kernel
theorem dX6_bringIn_89 : decode cX6_bringIn 89 = .ok (.getfield 44, 3) := by decide +kernel
theorem dX6_bringIn_92 : decode cX6_bringIn 92 = .ok (.dup, 1) := by decide +kernel
theorem dX6_bringIn_93 : decode cX6_bringIn 93 = .ok (.getfield 100, 3) := by decide +kernel
theorem dX6_bringIn_96 : decode cX6_bringIn 96 = .ok (.iload_n 2, 1) := by decide +kernel
theorem dX6_bringIn_97 : decode cX6_bringIn 97 = .ok (.iadd, 1) := by decide +kernel
theorem dX6_bringIn_98 : decode cX6_bringIn 98 = .ok (.putfield 100, 3) := by decide +kernel
theorem dX6_bringIn_101 : decode cX6_bringIn 101 = .ok (.aload_n 0, 1) := by decide +kernel
theorem dX6_bringIn_102 : decode cX6_bringIn 102 = .ok (.getfield 44, 3) := by decide +kernel
theorem dX6_bringIn_105 : decode cX6_bringIn 105 = .ok (.dup, 1) := by decide +kernel
theorem dX6_bringIn_106 : decode cX6_bringIn 106 = .ok (.getfield 276, 3) := by decide +kernel
theorem dX6_bringIn_109 : decode cX6_bringIn 109 = .ok (.iload_n 1, 1) := by decide +kernel
theorem dX6_bringIn_110 : decode cX6_bringIn 110 = .ok (.iadd, 1) := by decide +kernel
theorem dX6_bringIn_111 : decode cX6_bringIn 111 = .ok (.putfield 276, 3) := by decide +kernel
theorem dX6_bringIn_114 : decode cX6_bringIn 114 = .ok (.iload_n 2, 1) := by decide +kernel
theorem dX6_bringIn_115 : decode cX6_bringIn 115 = .ok (.ireturn, 1) := by decide +kernel
theorem dX6_gainOf_0 : decode cX6_gainOf 0 = .ok (.aload_n 0, 1) := by decide +kernel
theorem dX6_gainOf_1 : decode cX6_gainOf 1 = .ok (.getfield 44, 3) := by decide +kernel
theorem dX6_gainOf_4 : decode cX6_gainOf 4 = .ok (.getfield 48, 3) := by decide +kernel
theorem dX6_gainOf_7 : decode cX6_gainOf 7 = .ok (.getfield 103, 3) := by decide +kernel
theorem dX6_gainOf_10 : decode cX6_gainOf 10 = .ok (.iload_n 1, 1) := by decide +kernel
theorem dX6_gainOf_11 : decode cX6_gainOf 11 = .ok (.iaload, 1) := by decide +kernel
theorem dX6_gainOf_12 : decode cX6_gainOf 12 = .ok (.istore_n 2, 1) := by decide +kernel
theorem dX6_gainOf_13 : decode cX6_gainOf 13 = .ok (.iload_n 1, 1) := by decide +kernel
theorem dX6_gainOf_14 : decode cX6_gainOf 14 = .ok (.aload_n 0, 1) := by decide +kernel
theorem dX6_gainOf_15 : decode cX6_gainOf 15 = .ok (.getfield 25, 3) := by decide +kernel
theorem dX6_gainOf_18 : decode cX6_gainOf 18 = .ok (.getfield 356, 3) := by decide +kernel
theorem dX6_gainOf_21 : decode cX6_gainOf 21 = .ok (.if_icmp .ne 13, 3) := by decide +kernel
theorem dX6_gainOf_24 : decode cX6_gainOf 24 = .ok (.aload_n 0, 1) := by decide +kernel
theorem dX6_gainOf_25 : decode cX6_gainOf 25 = .ok (.getfield 25, 3) := by decide +kernel
theorem dX6_gainOf_28 : decode cX6_gainOf 28 = .ok (.getfield 359, 3) := by decide +kernel
theorem dX6_gainOf_31 : decode cX6_gainOf 31 = .ok (.goto 4, 3) := by decide +kernel
theorem dX6_gainOf_34 : decode cX6_gainOf 34 = .ok (.iconst 0, 1) := by decide +kernel
theorem dX6_gainOf_35 : decode cX6_gainOf 35 = .ok (.istore_n 3, 1) := by decide +kernel
theorem dX6_gainOf_36 : decode cX6_gainOf 36 = .ok (.iload_n 3, 1) := by decide +kernel
theorem dX6_gainOf_37 : decode cX6_gainOf 37 = .ok (.iload_n 2, 1) := by decide +kernel
theorem dX6_gainOf_38 : decode cX6_gainOf 38 = .ok (.invokestatic 365, 3) := by decide +kernel
theorem dX6_gainOf_41 : decode cX6_gainOf 41 = .ok (.istore 4, 2) := by decide +kernel
theorem dX6_gainOf_43 : decode cX6_gainOf 43 = .ok (.aload_n 0, 1) := by decide +kernel
theorem dX6_gainOf_44 : decode cX6_gainOf 44 = .ok (.getfield 25, 3) := by decide +kernel
theorem dX6_gainOf_47 : decode cX6_gainOf 47 = .ok (.getfield 216, 3) := by decide +kernel
theorem dX6_gainOf_50 : decode cX6_gainOf 50 = .ok (.iload_n 1, 1) := by decide +kernel
theorem dX6_gainOf_51 : decode cX6_gainOf 51 = .ok (.iaload, 1) := by decide +kernel
theorem dX6_gainOf_52 : decode cX6_gainOf 52 = .ok (.istore 5, 2) := by decide +kernel
theorem dX6_gainOf_54 : decode cX6_gainOf 54 = .ok (.iload 5, 2) := by decide +kernel
theorem dX6_gainOf_56 : decode cX6_gainOf 56 = .ok (.iload_n 2, 1) := by decide +kernel
theorem dX6_gainOf_57 : decode cX6_gainOf 57 = .ok (.iload 4, 2) := by decide +kernel
theorem dX6_gainOf_59 : decode cX6_gainOf 59 = .ok (.isub, 1) := by decide +kernel
theorem dX6_gainOf_60 : decode cX6_gainOf 60 = .ok (.invokestatic 365, 3) := by decide +kernel
theorem dX6_gainOf_63 : decode cX6_gainOf 63 = .ok (.istore 6, 2) := by decide +kernel
theorem dX6_gainOf_65 : decode cX6_gainOf 65 = .ok (.iload_n 3, 1) := by decide +kernel
theorem dX6_gainOf_66 : decode cX6_gainOf 66 = .ok (.iload 4, 2) := by decide +kernel
theorem dX6_gainOf_68 : decode cX6_gainOf 68 = .ok (.isub, 1) := by decide +kernel
theorem dX6_gainOf_69 : decode cX6_gainOf 69 = .ok (.iload 5, 2) := by decide +kernel
theorem dX6_gainOf_71 : decode cX6_gainOf 71 = .ok (.iadd, 1) := by decide +kernel
theorem dX6_gainOf_72 : decode cX6_gainOf 72 = .ok (.iload 6, 2) := by decide +kernel
theorem dX6_gainOf_74 : decode cX6_gainOf 74 = .ok (.isub, 1) := by decide +kernel
theorem dX6_gainOf_75 : decode cX6_gainOf 75 = .ok (.ireturn, 1) := by decide +kernel
theorem dX6_findBest_0 : decode cX6_findBest 0 = .ok (.aload_n 0, 1) := by decide +kernel
theorem dX6_findBest_1 : decode cX6_findBest 1 = .ok (.getfield 36, 3) := by decide +kernel
theorem dX6_findBest_4 : decode cX6_findBest 4 = .ok (.iconst (-1), 1) := by decide +kernel
theorem dX6_findBest_5 : decode cX6_findBest 5 = .ok (.invokestatic 130, 3) := by decide +kernel
theorem dX6_findBest_8 : decode cX6_findBest 8 = .ok (.iconst 0, 1) := by decide +kernel
theorem dX6_findBest_9 : decode cX6_findBest 9 = .ok (.istore_n 2, 1) := by decide +kernel
theorem dX6_findBest_10 : decode cX6_findBest 10 = .ok (.iload_n 2, 1) := by decide +kernel
theorem dX6_findBest_11 : decode cX6_findBest 11 = .ok (.aload_n 0, 1) := by decide +kernel
theorem dX6_findBest_12 : decode cX6_findBest 12 = .ok (.getfield 44, 3) := by decide +kernel
theorem dX6_findBest_15 : decode cX6_findBest 15 = .ok (.getfield 121, 3) := by decide +kernel
theorem dX6_findBest_18 : decode cX6_findBest 18 = .ok (.getfield 136, 3) := by decide +kernel
theorem dX6_findBest_21 : decode cX6_findBest 21 = .ok (.if_icmp .ge 43, 3) := by decide +kernel
theorem dX6_findBest_24 : decode cX6_findBest 24 = .ok (.aload_n 0, 1) := by decide +kernel
theorem dX6_findBest_25 : decode cX6_findBest 25 = .ok (.getfield 44, 3) := by decide +kernel
theorem dX6_findBest_28 : decode cX6_findBest 28 = .ok (.getfield 121, 3) := by decide +kernel
theorem dX6_findBest_31 : decode cX6_findBest 31 = .ok (.getfield 161, 3) := by decide +kernel
theorem dX6_findBest_34 : decode cX6_findBest 34 = .ok (.iload_n 2, 1) := by decide +kernel
theorem dX6_findBest_35 : decode cX6_findBest 35 = .ok (.iaload, 1) := by decide +kernel
theorem dX6_findBest_36 : decode cX6_findBest 36 = .ok (.iconst 3, 1) := by decide +kernel
theorem dX6_findBest_37 : decode cX6_findBest 37 = .ok (.if_icmp .ne 21, 3) := by decide +kernel
theorem dX6_findBest_40 : decode cX6_findBest 40 = .ok (.aload_n 0, 1) := by decide +kernel
theorem dX6_findBest_41 : decode cX6_findBest 41 = .ok (.getfield 25, 3) := by decide +kernel
theorem dX6_findBest_44 : decode cX6_findBest 44 = .ok (.aload_n 0, 1) := by decide +kernel
theorem dX6_findBest_45 : decode cX6_findBest 45 = .ok (.getfield 44, 3) := by decide +kernel
theorem dX6_findBest_48 : decode cX6_findBest 48 = .ok (.iload_n 2, 1) := by decide +kernel
theorem dX6_findBest_49 : decode cX6_findBest 49 = .ok (.iload_n 1, 1) := by decide +kernel
theorem dX6_findBest_50 : decode cX6_findBest 50 = .ok (.invokevirtual 210, 3) := by decide +kernel
theorem dX6_findBest_53 : decode cX6_findBest 53 = .ok (.aload_n 0, 1) := by decide +kernel
theorem dX6_findBest_54 : decode cX6_findBest 54 = .ok (.iload_n 2, 1) := by decide +kernel
theorem dX6_findBest_55 : decode cX6_findBest 55 = .ok (.invokevirtual 368, 3) := by decide +kernel
theorem dX6_findBest_58 : decode cX6_findBest 58 = .ok (.iinc 2 1, 3) := by decide +kernel
theorem dX6_findBest_61 : decode cX6_findBest 61 = .ok (.goto (-51), 3) := by decide +kernel
theorem dX6_findBest_64 : decode cX6_findBest 64 = .ok (.return_, 1) := by decide +kernel
theorem dX6_preferIfBetter_0 : decode cX6_preferIfBetter 0 = .ok (.iconst 0, 1) := by decide +kernel
theorem dX6_preferIfBetter_1 : decode cX6_preferIfBetter 1 = .ok (.istore_n 2, 1) := by decide +kernel
theorem dX6_preferIfBetter_2 : decode cX6_preferIfBetter 2 = .ok (.iload_n 2, 1) := by decide +kernel
theorem dX6_preferIfBetter_3 : decode cX6_preferIfBetter 3 = .ok (.aload_n 0, 1) := by decide +kernel
theorem dX6_preferIfBetter_4 : decode cX6_preferIfBetter 4 = .ok (.getfield 44, 3) := by decide +kernel
theorem dX6_preferIfBetter_7 : decode cX6_preferIfBetter 7 = .ok (.getfield 48, 3) := by decide +kernel
theorem dX6_preferIfBetter_10 : decode cX6_preferIfBetter 10 = .ok (.getfield 52, 3) := by decide +kernel
theorem dX6_preferIfBetter_13 : decode cX6_preferIfBetter 13 = .ok (.if_icmp .ge 49, 3) := by decide +kernel
theorem dX6_preferIfBetter_16 : decode cX6_preferIfBetter 16 = .ok (.aload_n 0, 1) := by decide +kernel
theorem dX6_preferIfBetter_17 : decode cX6_preferIfBetter 17 = .ok (.iload_n 2, 1) := by decide +kernel
theorem dX6_preferIfBetter_18 : decode cX6_preferIfBetter 18 = .ok (.invokevirtual 289, 3) := by decide +kernel
theorem dX6_preferIfBetter_21 : decode cX6_preferIfBetter 21 = .ok (.istore_n 3, 1) := by decide +kernel
theorem dX6_preferIfBetter_22 : decode cX6_preferIfBetter 22 = .ok (.aload_n 0, 1) := by decide +kernel
theorem dX6_preferIfBetter_23 : decode cX6_preferIfBetter 23 = .ok (.getfield 36, 3) := by decide +kernel
theorem dX6_preferIfBetter_26 : decode cX6_preferIfBetter 26 = .ok (.iload_n 2, 1) := by decide +kernel
theorem dX6_preferIfBetter_27 : decode cX6_preferIfBetter 27 = .ok (.iaload, 1) := by decide +kernel
theorem dX6_preferIfBetter_28 : decode cX6_preferIfBetter 28 = .ok (.iconst (-1), 1) := by decide +kernel
theorem dX6_preferIfBetter_29 : decode cX6_preferIfBetter 29 = .ok (.if_icmp .eq 13, 3) := by decide +kernel
theorem dX6_preferIfBetter_32 : decode cX6_preferIfBetter 32 = .ok (.iload_n 3, 1) := by decide +kernel
theorem dX6_preferIfBetter_33 : decode cX6_preferIfBetter 33 = .ok (.aload_n 0, 1) := by decide +kernel
theorem dX6_preferIfBetter_34 : decode cX6_preferIfBetter 34 = .ok (.getfield 40, 3) := by decide +kernel
theorem dX6_preferIfBetter_37 : decode cX6_preferIfBetter 37 = .ok (.iload_n 2, 1) := by decide +kernel
theorem dX6_preferIfBetter_38 : decode cX6_preferIfBetter 38 = .ok (.iaload, 1) := by decide +kernel
theorem dX6_preferIfBetter_39 : decode cX6_preferIfBetter 39 = .ok (.if_icmp .le 17, 3) := by decide +kernel
theorem dX6_preferIfBetter_42 : decode cX6_preferIfBetter 42 = .ok (.aload_n 0, 1) := by decide +kernel
theorem dX6_preferIfBetter_43 : decode cX6_preferIfBetter 43 = .ok (.getfield 36, 3) := by decide +kernel
theorem dX6_preferIfBetter_46 : decode cX6_preferIfBetter 46 = .ok (.iload_n 2, 1) := by decide +kernel
theorem dX6_preferIfBetter_47 : decode cX6_preferIfBetter 47 = .ok (.iload_n 1, 1) := by decide +kernel
theorem dX6_preferIfBetter_48 : decode cX6_preferIfBetter 48 = .ok (.iastore, 1) := by decide +kernel
theorem dX6_preferIfBetter_49 : decode cX6_preferIfBetter 49 = .ok (.aload_n 0, 1) := by decide +kernel
theorem dX6_preferIfBetter_50 : decode cX6_preferIfBetter 50 = .ok (.getfield 40, 3) := by decide +kernel
theorem dX6_preferIfBetter_53 : decode cX6_preferIfBetter 53 = .ok (.iload_n 2, 1) := by decide +kernel
theorem dX6_preferIfBetter_54 : decode cX6_preferIfBetter 54 = .ok (.iload_n 3, 1) := by decide +kernel
theorem dX6_preferIfBetter_55 : decode cX6_preferIfBetter 55 = .ok (.iastore, 1) := by decide +kernel
theorem dX6_preferIfBetter_56 : decode cX6_preferIfBetter 56 = .ok (.iinc 2 1, 3) := by decide +kernel
theorem dX6_preferIfBetter_59 : decode cX6_preferIfBetter 59 = .ok (.goto (-57), 3) := by decide +kernel
theorem dX6_preferIfBetter_62 : decode cX6_preferIfBetter 62 = .ok (.return_, 1) := by decide +kernel
theorem dX6_mixPen_0 : decode cX6_mixPen 0 = .ok (.lload_n 1, 1) := by decide +kernel
theorem dX6_mixPen_1 : decode cX6_mixPen 1 = .ok (.lstore 4, 2) := by decide +kernel
theorem dX6_mixPen_3 : decode cX6_mixPen 3 = .ok (.iconst 0, 1) := by decide +kernel
theorem dX6_mixPen_4 : decode cX6_mixPen 4 = .ok (.istore 6, 2) := by decide +kernel
theorem dX6_mixPen_6 : decode cX6_mixPen 6 = .ok (.iload 6, 2) := by decide +kernel
theorem dX6_mixPen_8 : decode cX6_mixPen 8 = .ok (.bipush 9, 2) := by decide +kernel
theorem dX6_mixPen_10 : decode cX6_mixPen 10 = .ok (.if_icmp .ge 24, 3) := by decide +kernel
theorem dX6_mixPen_13 : decode cX6_mixPen 13 = .ok (.lload 4, 2) := by decide +kernel
theorem dX6_mixPen_15 : decode cX6_mixPen 15 = .ok (.aload_n 0, 1) := by decide +kernel
theorem dX6_mixPen_16 : decode cX6_mixPen 16 = .ok (.iload_n 3, 1) := by decide +kernel
theorem dX6_mixPen_17 : decode cX6_mixPen 17 = .ok (.iload 6, 2) := by decide +kernel
theorem dX6_mixPen_19 : decode cX6_mixPen 19 = .ok (.invokevirtual 371, 3) := by decide +kernel
theorem dX6_mixPen_22 : decode cX6_mixPen 22 = .ok (.i2l, 1) := by decide +kernel
theorem dX6_mixPen_23 : decode cX6_mixPen 23 = .ok (.invokestatic 308, 3) := by decide +kernel
theorem dX6_mixPen_26 : decode cX6_mixPen 26 = .ok (.lstore 4, 2) := by decide +kernel
theorem dX6_mixPen_28 : decode cX6_mixPen 28 = .ok (.iinc 6 1, 3) := by decide +kernel
theorem dX6_mixPen_31 : decode cX6_mixPen 31 = .ok (.goto (-25), 3) := by decide +kernel
theorem dX6_mixPen_34 : decode cX6_mixPen 34 = .ok (.lload 4, 2) := by decide +kernel
theorem dX6_mixPen_36 : decode cX6_mixPen 36 = .ok (.aload_n 0, 1) := by decide +kernel
theorem dX6_mixPen_37 : decode cX6_mixPen 37 = .ok (.getfield 36, 3) := by decide +kernel
theorem dX6_mixPen_40 : decode cX6_mixPen 40 = .ok (.iload_n 3, 1) := by decide +kernel
theorem dX6_mixPen_41 : decode cX6_mixPen 41 = .ok (.iaload, 1) := by decide +kernel
theorem dX6_mixPen_42 : decode cX6_mixPen 42 = .ok (.i2l, 1) := by decide +kernel
theorem dX6_mixPen_43 : decode cX6_mixPen 43 = .ok (.invokestatic 308, 3) := by decide +kernel
theorem dX6_mixPen_46 : decode cX6_mixPen 46 = .ok (.lreturn, 1) := by decide +kernel
theorem dX6_mixPiece_0 : decode cX6_mixPiece 0 = .ok (.lload_n 1, 1) := by decide +kernel
theorem dX6_mixPiece_1 : decode cX6_mixPiece 1 = .ok (.lstore 4, 2) := by decide +kernel
theorem dX6_mixPiece_3 : decode cX6_mixPiece 3 = .ok (.iconst 0, 1) := by decide +kernel
theorem dX6_mixPiece_4 : decode cX6_mixPiece 4 = .ok (.istore 6, 2) := by decide +kernel
theorem dX6_mixPiece_6 : decode cX6_mixPiece 6 = .ok (.iload 6, 2) := by decide +kernel
theorem dX6_mixPiece_8 : decode cX6_mixPiece 8 = .ok (.bipush 10, 2) := by decide +kernel
theorem dX6_mixPiece_10 : decode cX6_mixPiece 10 = .ok (.if_icmp .ge 24, 3) := by decide +kernel
theorem dX6_mixPiece_13 : decode cX6_mixPiece 13 = .ok (.lload 4, 2) := by decide +kernel
theorem dX6_mixPiece_15 : decode cX6_mixPiece 15 = .ok (.aload_n 0, 1) := by decide +kernel
theorem dX6_mixPiece_16 : decode cX6_mixPiece 16 = .ok (.iload_n 3, 1) := by decide +kernel
theorem dX6_mixPiece_17 : decode cX6_mixPiece 17 = .ok (.iload 6, 2) := by decide +kernel
theorem dX6_mixPiece_19 : decode cX6_mixPiece 19 = .ok (.invokevirtual 374, 3) := by decide +kernel
theorem dX6_mixPiece_22 : decode cX6_mixPiece 22 = .ok (.i2l, 1) := by decide +kernel
theorem dX6_mixPiece_23 : decode cX6_mixPiece 23 = .ok (.invokestatic 308, 3) := by decide +kernel
theorem dX6_mixPiece_26 : decode cX6_mixPiece 26 = .ok (.lstore 4, 2) := by decide +kernel
theorem dX6_mixPiece_28 : decode cX6_mixPiece 28 = .ok (.iinc 6 1, 3) := by decide +kernel
theorem dX6_mixPiece_31 : decode cX6_mixPiece 31 = .ok (.goto (-25), 3) := by decide +kernel
theorem dX6_mixPiece_34 : decode cX6_mixPiece 34 = .ok (.aload_n 0, 1) := by decide +kernel
theorem dX6_mixPiece_35 : decode cX6_mixPiece 35 = .ok (.getfield 32, 3) := by decide +kernel
theorem dX6_mixPiece_38 : decode cX6_mixPiece 38 = .ok (.aload_n 0, 1) := by decide +kernel
theorem dX6_mixPiece_39 : decode cX6_mixPiece 39 = .ok (.getfield 44, 3) := by decide +kernel
theorem dX6_mixPiece_42 : decode cX6_mixPiece 42 = .ok (.getfield 121, 3) := by decide +kernel
theorem dX6_mixPiece_45 : decode cX6_mixPiece 45 = .ok (.iload_n 3, 1) := by decide +kernel
theorem dX6_mixPiece_46 : decode cX6_mixPiece 46 = .ok (.invokevirtual 292, 3) := by decide +kernel
theorem dX6_mixPiece_49 : decode cX6_mixPiece 49 = .ok (.iconst 0, 1) := by decide +kernel
theorem dX6_mixPiece_50 : decode cX6_mixPiece 50 = .ok (.istore 6, 2) := by decide +kernel
theorem dX6_mixPiece_52 : decode cX6_mixPiece 52 = .ok (.iload 6, 2) := by decide +kernel
theorem dX6_mixPiece_54 : decode cX6_mixPiece 54 = .ok (.aload_n 0, 1) := by decide +kernel
theorem dX6_mixPiece_55 : decode cX6_mixPiece 55 = .ok (.getfield 44, 3) := by decide +kernel
theorem dX6_mixPiece_58 : decode cX6_mixPiece 58 = .ok (.getfield 48, 3) := by decide +kernel
theorem dX6_mixPiece_61 : decode cX6_mixPiece 61 = .ok (.getfield 52, 3) := by decide +kernel
theorem dX6_mixPiece_64 : decode cX6_mixPiece 64 = .ok (.if_icmp .ge 59, 3) := by decide +kernel
theorem dX6_mixPiece_67 : decode cX6_mixPiece 67 = .ok (.iconst 0, 1) := by decide +kernel
theorem dX6_mixPiece_68 : decode cX6_mixPiece 68 = .ok (.istore 7, 2) := by decide +kernel
theorem dX6_mixPiece_70 : decode cX6_mixPiece 70 = .ok (.iload 7, 2) := by decide +kernel
theorem dX6_mixPiece_72 : decode cX6_mixPiece 72 = .ok (.iconst 3, 1) := by decide +kernel
theorem dX6_mixPiece_73 : decode cX6_mixPiece 73 = .ok (.if_icmp .ge 26, 3) := by decide +kernel
theorem dX6_mixPiece_76 : decode cX6_mixPiece 76 = .ok (.lload 4, 2) := by decide +kernel
theorem dX6_mixPiece_78 : decode cX6_mixPiece 78 = .ok (.aload_n 0, 1) := by decide +kernel
theorem dX6_mixPiece_79 : decode cX6_mixPiece 79 = .ok (.iload_n 3, 1) := by decide +kernel
theorem dX6_mixPiece_80 : decode cX6_mixPiece 80 = .ok (.iload 6, 2) := by decide +kernel
theorem dX6_mixPiece_82 : decode cX6_mixPiece 82 = .ok (.iload 7, 2) := by decide +kernel
theorem dX6_mixPiece_84 : decode cX6_mixPiece 84 = .ok (.invokevirtual 377, 3) := by decide +kernel
theorem dX6_mixPiece_87 : decode cX6_mixPiece 87 = .ok (.i2l, 1) := by decide +kernel
theorem dX6_mixPiece_88 : decode cX6_mixPiece 88 = .ok (.invokestatic 308, 3) := by decide +kernel
theorem dX6_mixPiece_91 : decode cX6_mixPiece 91 = .ok (.lstore 4, 2) := by decide +kernel
theorem dX6_mixPiece_93 : decode cX6_mixPiece 93 = .ok (.iinc 7 1, 3) := by decide +kernel
theorem dX6_mixPiece_96 : decode cX6_mixPiece 96 = .ok (.goto (-26), 3) := by decide +kernel
theorem dX6_mixPiece_99 : decode cX6_mixPiece 99 = .ok (.lload 4, 2) := by decide +kernel
theorem dX6_mixPiece_101 : decode cX6_mixPiece 101 = .ok (.aload_n 0, 1) := by decide +kernel
theorem dX6_mixPiece_102 : decode cX6_mixPiece 102 = .ok (.getfield 32, 3) := by decide +kernel
theorem dX6_mixPiece_105 : decode cX6_mixPiece 105 = .ok (.getfield 296, 3) := by decide +kernel
theorem dX6_mixPiece_108 : decode cX6_mixPiece 108 = .ok (.iload 6, 2) := by decide +kernel
theorem dX6_mixPiece_110 : decode cX6_mixPiece 110 = .ok (.iaload, 1) := by decide +kernel
theorem dX6_mixPiece_111 : decode cX6_mixPiece 111 = .ok (.i2l, 1) := by decide +kernel
theorem dX6_mixPiece_112 : decode cX6_mixPiece 112 = .ok (.invokestatic 308, 3) := by decide +kernel
theorem dX6_mixPiece_115 : decode cX6_mixPiece 115 = .ok (.lstore 4, 2) := by decide +kernel
theorem dX6_mixPiece_117 : decode cX6_mixPiece 117 = .ok (.iinc 6 1, 3) := by decide +kernel
theorem dX6_mixPiece_120 : decode cX6_mixPiece 120 = .ok (.goto (-68), 3) := by decide +kernel
theorem dX6_mixPiece_123 : decode cX6_mixPiece 123 = .ok (.lload 4, 2) := by decide +kernel
theorem dX6_mixPiece_125 : decode cX6_mixPiece 125 = .ok (.lreturn, 1) := by decide +kernel
theorem dX6_mix_0 : decode cX6_mix 0 = .ok (.ldc2_w 381, 3) := by decide +kernel
theorem dX6_mix_3 : decode cX6_mix 3 = .ok (.lload_n 0, 1) := by decide +kernel
theorem dX6_mix_4 : decode cX6_mix 4 = .ok (.lmul, 1) := by decide +kernel
theorem dX6_mix_5 : decode cX6_mix 5 = .ok (.lload_n 2, 1) := by decide +kernel
theorem dX6_mix_6 : decode cX6_mix 6 = .ok (.ladd, 1) := by decide +kernel
theorem dX6_mix_7 : decode cX6_mix 7 = .ok (.lreturn, 1) := by decide +kernel
theorem dX6_bitsOf_0 : decode cX6_bitsOf 0 = .ok (.dload_n 0, 1) := by decide +kernel
theorem dX6_bitsOf_1 : decode cX6_bitsOf 1 = .ok (.dconst 0, 1) := by decide +kernel
theorem dX6_bitsOf_2 : decode cX6_bitsOf 2 = .ok (.dcmp .l, 1) := by decide +kernel
theorem dX6_bitsOf_3 : decode cX6_bitsOf 3 = .ok (.ifCond .gt 5, 3) := by decide +kernel
theorem dX6_bitsOf_6 : decode cX6_bitsOf 6 = .ok (.lconst 0, 1) := by decide +kernel
theorem dX6_bitsOf_7 : decode cX6_bitsOf 7 = .ok (.lreturn, 1) := by decide +kernel
theorem dX6_bitsOf_8 : decode cX6_bitsOf 8 = .ok (.dload_n 0, 1) := by decide +kernel
theorem dX6_bitsOf_9 : decode cX6_bitsOf 9 = .ok (.dstore_n 2, 1) := by decide +kernel
theorem dX6_bitsOf_10 : decode cX6_bitsOf 10 = .ok (.ldc2_w 383, 3) := by decide +kernel
theorem dX6_bitsOf_13 : decode cX6_bitsOf 13 = .ok (.lstore 4, 2) := by decide +kernel
theorem dX6_bitsOf_15 : decode cX6_bitsOf 15 = .ok (.iconst 0, 1) := by decide +kernel
theorem dX6_bitsOf_16 : decode cX6_bitsOf 16 = .ok (.istore 6, 2) := by decide +kernel
theorem dX6_bitsOf_18 : decode cX6_bitsOf 18 = .ok (.iload 6, 2) := by decide +kernel
theorem dX6_bitsOf_20 : decode cX6_bitsOf 20 = .ok (.sipush 1022, 3) := by decide +kernel
theorem dX6_bitsOf_23 : decode cX6_bitsOf 23 = .ok (.if_icmp .ge 27, 3) := by decide +kernel
theorem dX6_bitsOf_26 : decode cX6_bitsOf 26 = .ok (.dload_n 2, 1) := by decide +kernel
theorem dX6_bitsOf_27 : decode cX6_bitsOf 27 = .ok (.dconst 1, 1) := by decide +kernel
theorem dX6_bitsOf_28 : decode cX6_bitsOf 28 = .ok (.dcmp .g, 1) := by decide +kernel
theorem dX6_bitsOf_29 : decode cX6_bitsOf 29 = .ok (.ifCond .ge 21, 3) := by decide +kernel
theorem dX6_bitsOf_32 : decode cX6_bitsOf 32 = .ok (.dload_n 2, 1) := by decide +kernel
theorem dX6_bitsOf_33 : decode cX6_bitsOf 33 = .ok (.ldc2_w 385, 3) := by decide +kernel
theorem dX6_bitsOf_36 : decode cX6_bitsOf 36 = .ok (.dmul, 1) := by decide +kernel
theorem dX6_bitsOf_37 : decode cX6_bitsOf 37 = .ok (.dstore_n 2, 1) := by decide +kernel
theorem dX6_bitsOf_38 : decode cX6_bitsOf 38 = .ok (.lload 4, 2) := by decide +kernel
theorem dX6_bitsOf_40 : decode cX6_bitsOf 40 = .ok (.lconst 1, 1) := by decide +kernel
theorem dX6_bitsOf_41 : decode cX6_bitsOf 41 = .ok (.lsub, 1) := by decide +kernel
theorem dX6_bitsOf_42 : decode cX6_bitsOf 42 = .ok (.lstore 4, 2) := by decide +kernel
theorem dX6_bitsOf_44 : decode cX6_bitsOf 44 = .ok (.iinc 6 1, 3) := by decide +kernel
theorem dX6_bitsOf_47 : decode cX6_bitsOf 47 = .ok (.goto (-29), 3) := by decide +kernel
theorem dX6_bitsOf_50 : decode cX6_bitsOf 50 = .ok (.lload 4, 2) := by decide +kernel
theorem dX6_bitsOf_52 : decode cX6_bitsOf 52 = .ok (.bipush 52, 2) := by decide +kernel
theorem dX6_bitsOf_54 : decode cX6_bitsOf 54 = .ok (.lshl, 1) := by decide +kernel
theorem dX6_bitsOf_55 : decode cX6_bitsOf 55 = .ok (.dload_n 2, 1) := by decide +kernel
theorem dX6_bitsOf_56 : decode cX6_bitsOf 56 = .ok (.dconst 1, 1) := by decide +kernel
theorem dX6_bitsOf_57 : decode cX6_bitsOf 57 = .ok (.dsub, 1) := by decide +kernel
theorem dX6_bitsOf_58 : decode cX6_bitsOf 58 = .ok (.ldc2_w 387, 3) := by decide +kernel
theorem dX6_bitsOf_61 : decode cX6_bitsOf 61 = .ok (.dmul, 1) := by decide +kernel
theorem dX6_bitsOf_62 : decode cX6_bitsOf 62 = .ok (.d2l, 1) := by decide +kernel
theorem dX6_bitsOf_63 : decode cX6_bitsOf 63 = .ok (.ladd, 1) := by decide +kernel
theorem dX6_bitsOf_64 : decode cX6_bitsOf 64 = .ok (.lreturn, 1) := by decide +kernel
theorem dX6_withheld_0 : decode cX6_withheld 0 = .ok (.iload_n 0, 1) := by decide +kernel
theorem dX6_withheld_1 : decode cX6_withheld 1 = .ok (.iload_n 0, 1) := by decide +kernel
theorem dX6_withheld_2 : decode cX6_withheld 2 = .ok (.iconst 2, 1) := by decide +kernel
theorem dX6_withheld_3 : decode cX6_withheld 3 = .ok (.idiv, 1) := by decide +kernel
theorem dX6_withheld_4 : decode cX6_withheld 4 = .ok (.isub, 1) := by decide +kernel
theorem dX6_withheld_5 : decode cX6_withheld 5 = .ok (.iload_n 1, 1) := by decide +kernel
theorem dX6_withheld_6 : decode cX6_withheld 6 = .ok (.invokestatic 348, 3) := by decide +kernel
theorem dX6_withheld_9 : decode cX6_withheld 9 = .ok (.ireturn, 1) := by decide +kernel
theorem dX6_at_0 : decode cX6_at 0 = .ok (.iload_n 0, 1) := by decide +kernel
theorem dX6_at_1 : decode cX6_at 1 = .ok (.bipush 12, 2) := by decide +kernel
theorem dX6_at_3 : decode cX6_at 3 = .ok (.imul, 1) := by decide +kernel
theorem dX6_at_4 : decode cX6_at 4 = .ok (.iload_n 1, 1) := by decide +kernel
theorem dX6_at_5 : decode cX6_at 5 = .ok (.iadd, 1) := by decide +kernel
theorem dX6_at_6 : decode cX6_at 6 = .ok (.ireturn, 1) := by decide +kernel
theorem dX6_isIn_0 : decode cX6_isIn 0 = .ok (.iload_n 0, 1) := by decide +kernel
theorem dX6_isIn_1 : decode cX6_isIn 1 = .ok (.iload_n 1, 1) := by decide +kernel
theorem dX6_isIn_2 : decode cX6_isIn 2 = .ok (.ishr, 1) := by decide +kernel
theorem dX6_isIn_3 : decode cX6_isIn 3 = .ok (.iconst 1, 1) := by decide +kernel
theorem dX6_isIn_4 : decode cX6_isIn 4 = .ok (.iand, 1) := by decide +kernel
theorem dX6_isIn_5 : decode cX6_isIn 5 = .ok (.ifCond .eq 7, 3) := by decide +kernel
theorem dX6_isIn_8 : decode cX6_isIn 8 = .ok (.iconst 1, 1) := by decide +kernel
theorem dX6_isIn_9 : decode cX6_isIn 9 = .ok (.goto 4, 3) := by decide +kernel
theorem dX6_isIn_12 : decode cX6_isIn 12 = .ok (.iconst 0, 1) := by decide +kernel
theorem dX6_isIn_13 : decode cX6_isIn 13 = .ok (.ireturn, 1) := by decide +kernel
theorem dX6_sum_0 : decode cX6_sum 0 = .ok (.iconst 0, 1) := by decide +kernel
theorem dX6_sum_1 : decode cX6_sum 1 = .ok (.istore_n 1, 1) := by decide +kernel
theorem dX6_sum_2 : decode cX6_sum 2 = .ok (.aload_n 0, 1) := by decide +kernel
theorem dX6_sum_3 : decode cX6_sum 3 = .ok (.astore_n 2, 1) := by decide +kernel
theorem dX6_sum_4 : decode cX6_sum 4 = .ok (.aload_n 2, 1) := by decide +kernel
theorem dX6_sum_5 : decode cX6_sum 5 = .ok (.arraylength, 1) := by decide +kernel
theorem dX6_sum_6 : decode cX6_sum 6 = .ok (.istore_n 3, 1) := by decide +kernel
theorem dX6_sum_7 : decode cX6_sum 7 = .ok (.iconst 0, 1) := by decide +kernel
theorem dX6_sum_8 : decode cX6_sum 8 = .ok (.istore 4, 2) := by decide +kernel
theorem dX6_sum_10 : decode cX6_sum 10 = .ok (.iload 4, 2) := by decide +kernel
theorem dX6_sum_12 : decode cX6_sum 12 = .ok (.iload_n 3, 1) := by decide +kernel
theorem dX6_sum_13 : decode cX6_sum 13 = .ok (.if_icmp .ge 20, 3) := by decide +kernel
theorem dX6_sum_16 : decode cX6_sum 16 = .ok (.aload_n 2, 1) := by decide +kernel
theorem dX6_sum_17 : decode cX6_sum 17 = .ok (.iload 4, 2) := by decide +kernel
theorem dX6_sum_19 : decode cX6_sum 19 = .ok (.iaload, 1) := by decide +kernel
theorem dX6_sum_20 : decode cX6_sum 20 = .ok (.istore 5, 2) := by decide +kernel
theorem dX6_sum_22 : decode cX6_sum 22 = .ok (.iload_n 1, 1) := by decide +kernel
theorem dX6_sum_23 : decode cX6_sum 23 = .ok (.iload 5, 2) := by decide +kernel
theorem dX6_sum_25 : decode cX6_sum 25 = .ok (.iadd, 1) := by decide +kernel
theorem dX6_sum_26 : decode cX6_sum 26 = .ok (.istore_n 1, 1) := by decide +kernel
theorem dX6_sum_27 : decode cX6_sum 27 = .ok (.iinc 4 1, 3) := by decide +kernel
theorem dX6_sum_30 : decode cX6_sum 30 = .ok (.goto (-20), 3) := by decide +kernel
theorem dX6_sum_33 : decode cX6_sum 33 = .ok (.iload_n 1, 1) := by decide +kernel
theorem dX6_sum_34 : decode cX6_sum 34 = .ok (.ireturn, 1) := by decide +kernel
theorem dX6_sumOf_0 : decode cX6_sumOf 0 = .ok (.iconst 0, 1) := by decide +kernel
theorem dX6_sumOf_1 : decode cX6_sumOf 1 = .ok (.istore_n 2, 1) := by decide +kernel
theorem dX6_sumOf_2 : decode cX6_sumOf 2 = .ok (.iconst 0, 1) := by decide +kernel
theorem dX6_sumOf_3 : decode cX6_sumOf 3 = .ok (.istore_n 3, 1) := by decide +kernel
theorem dX6_sumOf_4 : decode cX6_sumOf 4 = .ok (.iload_n 3, 1) := by decide +kernel
theorem dX6_sumOf_5 : decode cX6_sumOf 5 = .ok (.bipush 12, 2) := by decide +kernel
theorem dX6_sumOf_7 : decode cX6_sumOf 7 = .ok (.if_icmp .ge 19, 3) := by decide +kernel
theorem dX6_sumOf_10 : decode cX6_sumOf 10 = .ok (.iload_n 2, 1) := by decide +kernel
theorem dX6_sumOf_11 : decode cX6_sumOf 11 = .ok (.aload_n 0, 1) := by decide +kernel
theorem dX6_sumOf_12 : decode cX6_sumOf 12 = .ok (.iload_n 1, 1) := by decide +kernel
theorem dX6_sumOf_13 : decode cX6_sumOf 13 = .ok (.iload_n 3, 1) := by decide +kernel
theorem dX6_sumOf_14 : decode cX6_sumOf 14 = .ok (.invokestatic 158, 3) := by decide +kernel
theorem dX6_sumOf_17 : decode cX6_sumOf 17 = .ok (.iaload, 1) := by decide +kernel
theorem dX6_sumOf_18 : decode cX6_sumOf 18 = .ok (.iadd, 1) := by decide +kernel
theorem dX6_sumOf_19 : decode cX6_sumOf 19 = .ok (.istore_n 2, 1) := by decide +kernel
theorem dX6_sumOf_20 : decode cX6_sumOf 20 = .ok (.iinc 3 1, 3) := by decide +kernel
theorem dX6_sumOf_23 : decode cX6_sumOf 23 = .ok (.goto (-19), 3) := by decide +kernel
theorem dX6_sumOf_26 : decode cX6_sumOf 26 = .ok (.iload_n 2, 1) := by decide +kernel
theorem dX6_sumOf_27 : decode cX6_sumOf 27 = .ok (.ireturn, 1) := by decide +kernel
theorem dX6_copyRow_0 : decode cX6_copyRow 0 = .ok (.aload_n 0, 1) := by decide +kernel
theorem dX6_copyRow_1 : decode cX6_copyRow 1 = .ok (.iconst 0, 1) := by decide +kernel
theorem dX6_copyRow_2 : decode cX6_copyRow 2 = .ok (.aload_n 1, 1) := by decide +kernel
theorem dX6_copyRow_3 : decode cX6_copyRow 3 = .ok (.iconst 0, 1) := by decide +kernel
theorem dX6_copyRow_4 : decode cX6_copyRow 4 = .ok (.aload_n 0, 1) := by decide +kernel
theorem dX6_copyRow_5 : decode cX6_copyRow 5 = .ok (.arraylength, 1) := by decide +kernel
theorem dX6_copyRow_6 : decode cX6_copyRow 6 = .ok (.aload_n 1, 1) := by decide +kernel
theorem dX6_copyRow_7 : decode cX6_copyRow 7 = .ok (.arraylength, 1) := by decide +kernel
theorem dX6_copyRow_8 : decode cX6_copyRow 8 = .ok (.invokestatic 348, 3) := by decide +kernel
theorem dX6_copyRow_11 : decode cX6_copyRow 11 = .ok (.invokestatic 389, 3) := by decide +kernel
theorem dX6_copyRow_14 : decode cX6_copyRow 14 = .ok (.return_, 1) := by decide +kernel
end
section
theorem dX7_init_0 : decode cX7_init 0 = .ok (.aload_n 0, 1) := by decide +kernel
theorem dX7_init_1 : decode cX7_init 1 = .ok (.invokespecial 1, 3) := by decide +kernel
theorem dX7_init_4 : decode cX7_init 4 = .ok (.aload_n 0, 1) := by decide +kernel
theorem dX7_init_5 : decode cX7_init 5 = .ok (.sipush 906, 3) := by decide +kernel
theorem dX7_init_8 : decode cX7_init 8 = .ok (.newarray .int, 2) := by decide +kernel
theorem dX7_init_10 : decode cX7_init 10 = .ok (.putfield 7, 3) := by decide +kernel
theorem dX7_init_13 : decode cX7_init 13 = .ok (.aload_n 0, 1) := by decide +kernel
theorem dX7_init_14 : decode cX7_init 14 = .ok (.sipush 906, 3) := by decide +kernel
theorem dX7_init_17 : decode cX7_init 17 = .ok (.newarray .int, 2) := by decide +kernel
theorem dX7_init_19 : decode cX7_init 19 = .ok (.putfield 13, 3) := by decide +kernel
theorem dX7_init_22 : decode cX7_init 22 = .ok (.aload_n 0, 1) := by decide +kernel
theorem dX7_init_23 : decode cX7_init 23 = .ok (.sipush 5436, 3) := by decide +kernel
theorem dX7_init_26 : decode cX7_init 26 = .ok (.newarray .int, 2) := by decide +kernel
theorem dX7_init_28 : decode cX7_init 28 = .ok (.putfield 16, 3) := by decide +kernel
theorem dX7_init_31 : decode cX7_init 31 = .ok (.aload_n 0, 1) := by decide +kernel
theorem dX7_init_32 : decode cX7_init 32 = .ok (.bipush 60, 2) := by decide +kernel
theorem dX7_init_34 : decode cX7_init 34 = .ok (.newarray .int, 2) := by decide +kernel
theorem dX7_init_36 : decode cX7_init 36 = .ok (.putfield 19, 3) := by decide +kernel
theorem dX7_init_39 : decode cX7_init 39 = .ok (.aload_n 0, 1) := by decide +kernel
theorem dX7_init_40 : decode cX7_init 40 = .ok (.bipush 12, 2) := by decide +kernel
theorem dX7_init_42 : decode cX7_init 42 = .ok (.newarray .int, 2) := by decide +kernel
theorem dX7_init_44 : decode cX7_init 44 = .ok (.putfield 22, 3) := by decide +kernel
theorem dX7_init_47 : decode cX7_init 47 = .ok (.aload_n 0, 1) := by decide +kernel
theorem dX7_init_48 : decode cX7_init 48 = .ok (.bipush 12, 2) := by decide +kernel
theorem dX7_init_50 : decode cX7_init 50 = .ok (.newarray .int, 2) := by decide +kernel
theorem dX7_init_52 : decode cX7_init 52 = .ok (.putfield 25, 3) := by decide +kernel
theorem dX7_init_55 : decode cX7_init 55 = .ok (.aload_n 0, 1) := by decide +kernel
theorem dX7_init_56 : decode cX7_init 56 = .ok (.bipush 12, 2) := by decide +kernel
theorem dX7_init_58 : decode cX7_init 58 = .ok (.newarray .int, 2) := by decide +kernel
theorem dX7_init_60 : decode cX7_init 60 = .ok (.putfield 28, 3) := by decide +kernel
theorem dX7_init_63 : decode cX7_init 63 = .ok (.aload_n 0, 1) := by decide +kernel
theorem dX7_init_64 : decode cX7_init 64 = .ok (.iconst 4, 1) := by decide +kernel
theorem dX7_init_65 : decode cX7_init 65 = .ok (.newarray .int, 2) := by decide +kernel
theorem dX7_init_67 : decode cX7_init 67 = .ok (.putfield 31, 3) := by decide +kernel
theorem dX7_init_70 : decode cX7_init 70 = .ok (.aload_n 0, 1) := by decide +kernel
theorem dX7_init_71 : decode cX7_init 71 = .ok (.iconst 4, 1) := by decide +kernel
theorem dX7_init_72 : decode cX7_init 72 = .ok (.newarray .int, 2) := by decide +kernel
theorem dX7_init_74 : decode cX7_init 74 = .ok (.putfield 34, 3) := by decide +kernel
theorem dX7_init_77 : decode cX7_init 77 = .ok (.aload_n 0, 1) := by decide +kernel
theorem dX7_init_78 : decode cX7_init 78 = .ok (.iconst 4, 1) := by decide +kernel
theorem dX7_init_79 : decode cX7_init 79 = .ok (.newarray .int, 2) := by decide +kernel
theorem dX7_init_81 : decode cX7_init 81 = .ok (.putfield 37, 3) := by decide +kernel
theorem dX7_init_84 : decode cX7_init 84 = .ok (.aload_n 0, 1) := by decide +kernel
theorem dX7_init_85 : decode cX7_init 85 = .ok (.getfield 7, 3) := by decide +kernel
theorem dX7_init_88 : decode cX7_init 88 = .ok (.bipush 8, 2) := by decide +kernel
theorem dX7_init_90 : decode cX7_init 90 = .ok (.bipush 10, 2) := by decide +kernel
theorem dX7_init_92 : decode cX7_init 92 = .ok (.iastore, 1) := by decide +kernel
theorem dX7_init_93 : decode cX7_init 93 = .ok (.aload_n 0, 1) := by decide +kernel
theorem dX7_init_94 : decode cX7_init 94 = .ok (.getfield 7, 3) := by decide +kernel
theorem dX7_init_97 : decode cX7_init 97 = .ok (.bipush 9, 2) := by decide +kernel
theorem dX7_init_99 : decode cX7_init 99 = .ok (.iconst 5, 1) := by decide +kernel
theorem dX7_init_100 : decode cX7_init 100 = .ok (.iastore, 1) := by decide +kernel
theorem dX7_init_101 : decode cX7_init 101 = .ok (.aload_n 0, 1) := by decide +kernel
theorem dX7_init_102 : decode cX7_init 102 = .ok (.getfield 7, 3) := by decide +kernel
theorem dX7_init_105 : decode cX7_init 105 = .ok (.bipush 11, 2) := by decide +kernel
theorem dX7_init_107 : decode cX7_init 107 = .ok (.bipush 10, 2) := by decide +kernel
theorem dX7_init_109 : decode cX7_init 109 = .ok (.iastore, 1) := by decide +kernel
theorem dX7_init_110 : decode cX7_init 110 = .ok (.aload_n 0, 1) := by decide +kernel
theorem dX7_init_111 : decode cX7_init 111 = .ok (.getfield 7, 3) := by decide +kernel
theorem dX7_init_114 : decode cX7_init 114 = .ok (.bipush 12, 2) := by decide +kernel
theorem dX7_init_116 : decode cX7_init 116 = .ok (.bipush 25, 2) := by decide +kernel
theorem dX7_init_118 : decode cX7_init 118 = .ok (.iastore, 1) := by decide +kernel
theorem dX7_init_119 : decode cX7_init 119 = .ok (.aload_n 0, 1) := by decide +kernel
theorem dX7_init_120 : decode cX7_init 120 = .ok (.getfield 7, 3) := by decide +kernel
theorem dX7_init_123 : decode cX7_init 123 = .ok (.bipush 13, 2) := by decide +kernel
theorem dX7_init_125 : decode cX7_init 125 = .ok (.bipush 50, 2) := by decide +kernel
theorem dX7_init_127 : decode cX7_init 127 = .ok (.iastore, 1) := by decide +kernel
theorem dX7_init_128 : decode cX7_init 128 = .ok (.return_, 1) := by decide +kernel
theorem dX7_thrown_0 : decode cX7_thrown 0 = .ok (.aload_n 0, 1) := by decide +kernel
theorem dX7_thrown_1 : decode cX7_thrown 1 = .ok (.getfield 40, 3) := by decide +kernel
theorem dX7_thrown_4 : decode cX7_thrown 4 = .ok (.ireturn, 1) := by decide +kernel
theorem dX7_fails_0 : decode cX7_fails 0 = .ok (.aload_n 0, 1) := by decide +kernel
theorem dX7_fails_1 : decode cX7_fails 1 = .ok (.iload_n 1, 1) := by decide +kernel
theorem dX7_fails_2 : decode cX7_fails 2 = .ok (.putfield 40, 3) := by decide +kernel
theorem dX7_fails_5 : decode cX7_fails 5 = .ok (.iconst 0, 1) := by decide +kernel
theorem dX7_fails_6 : decode cX7_fails 6 = .ok (.ireturn, 1) := by decide +kernel
theorem dX7_within_0 : decode cX7_within 0 = .ok (.iload_n 0, 1) := by decide +kernel
theorem dX7_within_1 : decode cX7_within 1 = .ok (.iload_n 1, 1) := by decide +kernel
theorem dX7_within_2 : decode cX7_within 2 = .ok (.if_icmp .lt 12, 3) := by decide +kernel
theorem dX7_within_5 : decode cX7_within 5 = .ok (.iload_n 0, 1) := by decide +kernel
theorem dX7_within_6 : decode cX7_within 6 = .ok (.iload_n 2, 1) := by decide +kernel
theorem dX7_within_7 : decode cX7_within 7 = .ok (.if_icmp .gt 7, 3) := by decide +kernel
theorem dX7_within_10 : decode cX7_within 10 = .ok (.iconst 1, 1) := by decide +kernel
theorem dX7_within_11 : decode cX7_within 11 = .ok (.goto 4, 3) := by decide +kernel
theorem dX7_within_14 : decode cX7_within 14 = .ok (.iconst 0, 1) := by decide +kernel
theorem dX7_within_15 : decode cX7_within 15 = .ok (.ireturn, 1) := by decide +kernel
theorem dX7_isPen_0 : decode cX7_isPen 0 = .ok (.iload_n 1, 1) := by decide +kernel
theorem dX7_isPen_1 : decode cX7_isPen 1 = .ok (.iconst 0, 1) := by decide +kernel
theorem dX7_isPen_2 : decode cX7_isPen 2 = .ok (.aload_n 0, 1) := by decide +kernel
theorem dX7_isPen_3 : decode cX7_isPen 3 = .ok (.getfield 7, 3) := by decide +kernel
theorem dX7_isPen_6 : decode cX7_isPen 6 = .ok (.iconst 0, 1) := by decide +kernel
theorem dX7_isPen_7 : decode cX7_isPen 7 = .ok (.iaload, 1) := by decide +kernel
theorem dX7_isPen_8 : decode cX7_isPen 8 = .ok (.iconst 1, 1) := by decide +kernel
theorem dX7_isPen_9 : decode cX7_isPen 9 = .ok (.isub, 1) := by decide +kernel
theorem dX7_isPen_10 : decode cX7_isPen 10 = .ok (.invokestatic 44, 3) := by decide +kernel
theorem dX7_isPen_13 : decode cX7_isPen 13 = .ok (.ireturn, 1) := by decide +kernel
theorem dX7_isPiece_0 : decode cX7_isPiece 0 = .ok (.iload_n 1, 1) := by decide +kernel
theorem dX7_isPiece_1 : decode cX7_isPiece 1 = .ok (.iconst 0, 1) := by decide +kernel
theorem dX7_isPiece_2 : decode cX7_isPiece 2 = .ok (.aload_n 0, 1) := by decide +kernel
theorem dX7_isPiece_3 : decode cX7_isPiece 3 = .ok (.getfield 7, 3) := by decide +kernel
theorem dX7_isPiece_6 : decode cX7_isPiece 6 = .ok (.iconst 1, 1) := by decide +kernel
theorem dX7_isPiece_7 : decode cX7_isPiece 7 = .ok (.iaload, 1) := by decide +kernel
theorem dX7_isPiece_8 : decode cX7_isPiece 8 = .ok (.iconst 1, 1) := by decide +kernel
theorem dX7_isPiece_9 : decode cX7_isPiece 9 = .ok (.isub, 1) := by decide +kernel
theorem dX7_isPiece_10 : decode cX7_isPiece 10 = .ok (.invokestatic 44, 3) := by decide +kernel
theorem dX7_isPiece_13 : decode cX7_isPiece 13 = .ok (.ireturn, 1) := by decide +kernel
theorem dX7_of_0 : decode cX7_of 0 = .ok (.aload_n 0, 1) := by decide +kernel
theorem dX7_of_1 : decode cX7_of 1 = .ok (.getfield 7, 3) := by decide +kernel
theorem dX7_of_4 : decode cX7_of 4 = .ok (.bipush 14, 2) := by decide +kernel
theorem dX7_of_6 : decode cX7_of 6 = .ok (.bipush 6, 2) := by decide +kernel
theorem dX7_of_8 : decode cX7_of 8 = .ok (.iload_n 1, 1) := by decide +kernel
theorem dX7_of_9 : decode cX7_of 9 = .ok (.imul, 1) := by decide +kernel
theorem dX7_of_10 : decode cX7_of 10 = .ok (.iadd, 1) := by decide +kernel
theorem dX7_of_11 : decode cX7_of 11 = .ok (.iload_n 2, 1) := by decide +kernel
theorem dX7_of_12 : decode cX7_of 12 = .ok (.iadd, 1) := by decide +kernel
theorem dX7_of_13 : decode cX7_of 13 = .ok (.iaload, 1) := by decide +kernel
theorem dX7_of_14 : decode cX7_of 14 = .ok (.ireturn, 1) := by decide +kernel
theorem dX7_in_0 : decode cX7_in 0 = .ok (.aload_n 0, 1) := by decide +kernel
theorem dX7_in_1 : decode cX7_in 1 = .ok (.getfield 7, 3) := by decide +kernel
theorem dX7_in_4 : decode cX7_in 4 = .ok (.bipush 86, 2) := by decide +kernel
theorem dX7_in_6 : decode cX7_in 6 = .ok (.iconst 5, 1) := by decide +kernel
theorem dX7_in_7 : decode cX7_in 7 = .ok (.iload_n 1, 1) := by decide +kernel
theorem dX7_in_8 : decode cX7_in 8 = .ok (.imul, 1) := by decide +kernel
theorem dX7_in_9 : decode cX7_in 9 = .ok (.iadd, 1) := by decide +kernel
theorem dX7_in_10 : decode cX7_in 10 = .ok (.iload_n 2, 1) := by decide +kernel
theorem dX7_in_11 : decode cX7_in 11 = .ok (.iadd, 1) := by decide +kernel
theorem dX7_in_12 : decode cX7_in 12 = .ok (.iaload, 1) := by decide +kernel
theorem dX7_in_13 : decode cX7_in 13 = .ok (.ireturn, 1) := by decide +kernel
theorem dX7_drafts_0 : decode cX7_drafts 0 = .ok (.aload_n 0, 1) := by decide +kernel
theorem dX7_drafts_1 : decode cX7_drafts 1 = .ok (.getfield 7, 3) := by decide +kernel
theorem dX7_drafts_4 : decode cX7_drafts 4 = .ok (.sipush 186, 3) := by decide +kernel
theorem dX7_drafts_7 : decode cX7_drafts 7 = .ok (.bipush 12, 2) := by decide +kernel
theorem dX7_drafts_9 : decode cX7_drafts 9 = .ok (.iload_n 1, 1) := by decide +kernel
theorem dX7_drafts_10 : decode cX7_drafts 10 = .ok (.imul, 1) := by decide +kernel
theorem dX7_drafts_11 : decode cX7_drafts 11 = .ok (.iadd, 1) := by decide +kernel
theorem dX7_drafts_12 : decode cX7_drafts 12 = .ok (.iload_n 2, 1) := by decide +kernel
theorem dX7_drafts_13 : decode cX7_drafts 13 = .ok (.iadd, 1) := by decide +kernel
theorem dX7_drafts_14 : decode cX7_drafts 14 = .ok (.iaload, 1) := by decide +kernel
theorem dX7_drafts_15 : decode cX7_drafts 15 = .ok (.ireturn, 1) := by decide +kernel
theorem dX7_partsOf_0 : decode cX7_partsOf 0 = .ok (.aload_n 0, 1) := by decide +kernel
theorem dX7_partsOf_1 : decode cX7_partsOf 1 = .ok (.getfield 7, 3) := by decide +kernel
theorem dX7_partsOf_4 : decode cX7_partsOf 4 = .ok (.sipush 426, 3) := by decide +kernel
theorem dX7_partsOf_7 : decode cX7_partsOf 7 = .ok (.bipush 12, 2) := by decide +kernel
theorem dX7_partsOf_9 : decode cX7_partsOf 9 = .ok (.iload_n 1, 1) := by decide +kernel
theorem dX7_partsOf_10 : decode cX7_partsOf 10 = .ok (.imul, 1) := by decide +kernel
theorem dX7_partsOf_11 : decode cX7_partsOf 11 = .ok (.iadd, 1) := by decide +kernel
theorem dX7_partsOf_12 : decode cX7_partsOf 12 = .ok (.iload_n 2, 1) := by decide +kernel
theorem dX7_partsOf_13 : decode cX7_partsOf 13 = .ok (.iadd, 1) := by decide +kernel
theorem dX7_partsOf_14 : decode cX7_partsOf 14 = .ok (.iaload, 1) := by decide +kernel
theorem dX7_partsOf_15 : decode cX7_partsOf 15 = .ok (.ireturn, 1) := by decide +kernel
theorem dX7_save_0 : decode cX7_save 0 = .ok (.aload_n 0, 1) := by decide +kernel
theorem dX7_save_1 : decode cX7_save 1 = .ok (.getfield 48, 3) := by decide +kernel
theorem dX7_save_4 : decode cX7_save 4 = .ok (.bipush 6, 2) := by decide +kernel
theorem dX7_save_6 : decode cX7_save 6 = .ok (.if_icmp .ne 44, 3) := by decide +kernel
theorem dX7_save_9 : decode cX7_save 9 = .ok (.iconst 0, 1) := by decide +kernel
theorem dX7_save_10 : decode cX7_save 10 = .ok (.istore_n 1, 1) := by decide +kernel
theorem dX7_save_11 : decode cX7_save 11 = .ok (.iload_n 1, 1) := by decide +kernel
theorem dX7_save_12 : decode cX7_save 12 = .ok (.sipush 4530, 3) := by decide +kernel
theorem dX7_save_15 : decode cX7_save 15 = .ok (.if_icmp .ge 25, 3) := by decide +kernel
theorem dX7_save_18 : decode cX7_save 18 = .ok (.aload_n 0, 1) := by decide +kernel
theorem dX7_save_19 : decode cX7_save 19 = .ok (.getfield 16, 3) := by decide +kernel
theorem dX7_save_22 : decode cX7_save 22 = .ok (.iload_n 1, 1) := by decide +kernel
theorem dX7_save_23 : decode cX7_save 23 = .ok (.aload_n 0, 1) := by decide +kernel
theorem dX7_save_24 : decode cX7_save 24 = .ok (.getfield 16, 3) := by decide +kernel
theorem dX7_save_27 : decode cX7_save 27 = .ok (.sipush 906, 3) := by decide +kernel
theorem dX7_save_30 : decode cX7_save 30 = .ok (.iload_n 1, 1) := by decide +kernel
theorem dX7_save_31 : decode cX7_save 31 = .ok (.iadd, 1) := by decide +kernel
theorem dX7_save_32 : decode cX7_save 32 = .ok (.iaload, 1) := by decide +kernel
theorem dX7_save_33 : decode cX7_save 33 = .ok (.iastore, 1) := by decide +kernel
theorem dX7_save_34 : decode cX7_save 34 = .ok (.iinc 1 1, 3) := by decide +kernel
theorem dX7_save_37 : decode cX7_save 37 = .ok (.goto (-26), 3) := by decide +kernel
theorem dX7_save_40 : decode cX7_save 40 = .ok (.aload_n 0, 1) := by decide +kernel
theorem dX7_save_41 : decode cX7_save 41 = .ok (.dup, 1) := by decide +kernel
theorem dX7_save_42 : decode cX7_save 42 = .ok (.getfield 48, 3) := by decide +kernel
theorem dX7_save_45 : decode cX7_save 45 = .ok (.iconst 1, 1) := by decide +kernel
theorem dX7_save_46 : decode cX7_save 46 = .ok (.isub, 1) := by decide +kernel
theorem dX7_save_47 : decode cX7_save 47 = .ok (.putfield 48, 3) := by decide +kernel
theorem dX7_save_50 : decode cX7_save 50 = .ok (.iconst 0, 1) := by decide +kernel
theorem dX7_save_51 : decode cX7_save 51 = .ok (.istore_n 1, 1) := by decide +kernel
theorem dX7_save_52 : decode cX7_save 52 = .ok (.iload_n 1, 1) := by decide +kernel
theorem dX7_save_53 : decode cX7_save 53 = .ok (.sipush 906, 3) := by decide +kernel
theorem dX7_save_56 : decode cX7_save 56 = .ok (.if_icmp .ge 30, 3) := by decide +kernel
theorem dX7_save_59 : decode cX7_save 59 = .ok (.aload_n 0, 1) := by decide +kernel
theorem dX7_save_60 : decode cX7_save 60 = .ok (.getfield 16, 3) := by decide +kernel
theorem dX7_save_63 : decode cX7_save 63 = .ok (.sipush 906, 3) := by decide +kernel
theorem dX7_save_66 : decode cX7_save 66 = .ok (.aload_n 0, 1) := by decide +kernel
theorem dX7_save_67 : decode cX7_save 67 = .ok (.getfield 48, 3) := by decide +kernel
theorem dX7_save_70 : decode cX7_save 70 = .ok (.imul, 1) := by decide +kernel
theorem dX7_save_71 : decode cX7_save 71 = .ok (.iload_n 1, 1) := by decide +kernel
theorem dX7_save_72 : decode cX7_save 72 = .ok (.iadd, 1) := by decide +kernel
theorem dX7_save_73 : decode cX7_save 73 = .ok (.aload_n 0, 1) := by decide +kernel
theorem dX7_save_74 : decode cX7_save 74 = .ok (.getfield 7, 3) := by decide +kernel
theorem dX7_save_77 : decode cX7_save 77 = .ok (.iload_n 1, 1) := by decide +kernel
theorem dX7_save_78 : decode cX7_save 78 = .ok (.iaload, 1) := by decide +kernel
theorem dX7_save_79 : decode cX7_save 79 = .ok (.iastore, 1) := by decide +kernel
theorem dX7_save_80 : decode cX7_save 80 = .ok (.iinc 1 1, 3) := by decide +kernel
theorem dX7_save_83 : decode cX7_save 83 = .ok (.goto (-31), 3) := by decide +kernel
theorem dX7_save_86 : decode cX7_save 86 = .ok (.aload_n 0, 1) := by decide +kernel
theorem dX7_save_87 : decode cX7_save 87 = .ok (.dup, 1) := by decide +kernel
theorem dX7_save_88 : decode cX7_save 88 = .ok (.getfield 48, 3) := by decide +kernel
theorem dX7_save_91 : decode cX7_save 91 = .ok (.iconst 1, 1) := by decide +kernel
theorem dX7_save_92 : decode cX7_save 92 = .ok (.iadd, 1) := by decide +kernel
theorem dX7_save_93 : decode cX7_save 93 = .ok (.putfield 48, 3) := by decide +kernel
theorem dX7_save_96 : decode cX7_save 96 = .ok (.return_, 1) := by decide +kernel
theorem dX7_keep_0 : decode cX7_keep 0 = .ok (.iconst 0, 1) := by decide +kernel
theorem dX7_keep_1 : decode cX7_keep 1 = .ok (.istore_n 1, 1) := by decide +kernel
theorem dX7_keep_2 : decode cX7_keep 2 = .ok (.iload_n 1, 1) := by decide +kernel
theorem dX7_keep_3 : decode cX7_keep 3 = .ok (.sipush 906, 3) := by decide +kernel
theorem dX7_keep_6 : decode cX7_keep 6 = .ok (.if_icmp .ge 21, 3) := by decide +kernel
theorem dX7_keep_9 : decode cX7_keep 9 = .ok (.aload_n 0, 1) := by decide +kernel
theorem dX7_keep_10 : decode cX7_keep 10 = .ok (.getfield 13, 3) := by decide +kernel
theorem dX7_keep_13 : decode cX7_keep 13 = .ok (.iload_n 1, 1) := by decide +kernel
theorem dX7_keep_14 : decode cX7_keep 14 = .ok (.aload_n 0, 1) := by decide +kernel
theorem dX7_keep_15 : decode cX7_keep 15 = .ok (.getfield 7, 3) := by decide +kernel
theorem dX7_keep_18 : decode cX7_keep 18 = .ok (.iload_n 1, 1) := by decide +kernel
theorem dX7_keep_19 : decode cX7_keep 19 = .ok (.iaload, 1) := by decide +kernel
theorem dX7_keep_20 : decode cX7_keep 20 = .ok (.iastore, 1) := by decide +kernel
theorem dX7_keep_21 : decode cX7_keep 21 = .ok (.iinc 1 1, 3) := by decide +kernel
theorem dX7_keep_24 : decode cX7_keep 24 = .ok (.goto (-22), 3) := by decide +kernel
theorem dX7_keep_27 : decode cX7_keep 27 = .ok (.return_, 1) := by decide +kernel
theorem dX7_bring_0 : decode cX7_bring 0 = .ok (.iconst 0, 1) := by decide +kernel
theorem dX7_bring_1 : decode cX7_bring 1 = .ok (.istore_n 1, 1) := by decide +kernel
theorem dX7_bring_2 : decode cX7_bring 2 = .ok (.iload_n 1, 1) := by decide +kernel
theorem dX7_bring_3 : decode cX7_bring 3 = .ok (.sipush 906, 3) := by decide +kernel
theorem dX7_bring_6 : decode cX7_bring 6 = .ok (.if_icmp .ge 21, 3) := by decide +kernel
theorem dX7_bring_9 : decode cX7_bring 9 = .ok (.aload_n 0, 1) := by decide +kernel
theorem dX7_bring_10 : decode cX7_bring 10 = .ok (.getfield 7, 3) := by decide +kernel
theorem dX7_bring_13 : decode cX7_bring 13 = .ok (.iload_n 1, 1) := by decide +kernel
theorem dX7_bring_14 : decode cX7_bring 14 = .ok (.aload_n 0, 1) := by decide +kernel
theorem dX7_bring_15 : decode cX7_bring 15 = .ok (.getfield 13, 3) := by decide +kernel
theorem dX7_bring_18 : decode cX7_bring 18 = .ok (.iload_n 1, 1) := by decide +kernel
theorem dX7_bring_19 : decode cX7_bring 19 = .ok (.iaload, 1) := by decide +kernel
theorem dX7_bring_20 : decode cX7_bring 20 = .ok (.iastore, 1) := by decide +kernel
theorem dX7_bring_21 : decode cX7_bring 21 = .ok (.iinc 1 1, 3) := by decide +kernel
theorem dX7_bring_24 : decode cX7_bring 24 = .ok (.goto (-22), 3) := by decide +kernel
theorem dX7_bring_27 : decode cX7_bring 27 = .ok (.return_, 1) := by decide +kernel
theorem dX7_rowSum_0 : decode cX7_rowSum 0 = .ok (.iconst 0, 1) := by decide +kernel
theorem dX7_rowSum_1 : decode cX7_rowSum 1 = .ok (.istore_n 2, 1) := by decide +kernel
theorem dX7_rowSum_2 : decode cX7_rowSum 2 = .ok (.iconst 0, 1) := by decide +kernel
theorem dX7_rowSum_3 : decode cX7_rowSum 3 = .ok (.istore_n 3, 1) := by decide +kernel
theorem dX7_rowSum_4 : decode cX7_rowSum 4 = .ok (.iload_n 3, 1) := by decide +kernel
theorem dX7_rowSum_5 : decode cX7_rowSum 5 = .ok (.bipush 12, 2) := by decide +kernel
theorem dX7_rowSum_7 : decode cX7_rowSum 7 = .ok (.if_icmp .ge 20, 3) := by decide +kernel
theorem dX7_rowSum_10 : decode cX7_rowSum 10 = .ok (.iload_n 2, 1) := by decide +kernel
theorem dX7_rowSum_11 : decode cX7_rowSum 11 = .ok (.aload_n 0, 1) := by decide +kernel
theorem dX7_rowSum_12 : decode cX7_rowSum 12 = .ok (.getfield 7, 3) := by decide +kernel
theorem dX7_rowSum_15 : decode cX7_rowSum 15 = .ok (.iload_n 1, 1) := by decide +kernel
theorem dX7_rowSum_16 : decode cX7_rowSum 16 = .ok (.iload_n 3, 1) := by decide +kernel
theorem dX7_rowSum_17 : decode cX7_rowSum 17 = .ok (.iadd, 1) := by decide +kernel
theorem dX7_rowSum_18 : decode cX7_rowSum 18 = .ok (.iaload, 1) := by decide +kernel
theorem dX7_rowSum_19 : decode cX7_rowSum 19 = .ok (.iadd, 1) := by decide +kernel
theorem dX7_rowSum_20 : decode cX7_rowSum 20 = .ok (.istore_n 2, 1) := by decide +kernel
theorem dX7_rowSum_21 : decode cX7_rowSum 21 = .ok (.iinc 3 1, 3) := by decide +kernel
theorem dX7_rowSum_24 : decode cX7_rowSum 24 = .ok (.goto (-20), 3) := by decide +kernel
theorem dX7_rowSum_27 : decode cX7_rowSum 27 = .ok (.iload_n 2, 1) := by decide +kernel
theorem dX7_rowSum_28 : decode cX7_rowSum 28 = .ok (.ireturn, 1) := by decide +kernel
theorem dX7_allDrafts_0 : decode cX7_allDrafts 0 = .ok (.aload_n 0, 1) := by decide +kernel
theorem dX7_allDrafts_1 : decode cX7_allDrafts 1 = .ok (.sipush 186, 3) := by decide +kernel
theorem dX7_allDrafts_4 : decode cX7_allDrafts 4 = .ok (.bipush 12, 2) := by decide +kernel
theorem dX7_allDrafts_6 : decode cX7_allDrafts 6 = .ok (.iload_n 1, 1) := by decide +kernel
theorem dX7_allDrafts_7 : decode cX7_allDrafts 7 = .ok (.imul, 1) := by decide +kernel
theorem dX7_allDrafts_8 : decode cX7_allDrafts 8 = .ok (.iadd, 1) := by decide +kernel
theorem dX7_allDrafts_9 : decode cX7_allDrafts 9 = .ok (.invokevirtual 51, 3) := by decide +kernel
theorem dX7_allDrafts_12 : decode cX7_allDrafts 12 = .ok (.ireturn, 1) := by decide +kernel
theorem dX7_allParts_0 : decode cX7_allParts 0 = .ok (.aload_n 0, 1) := by decide +kernel
theorem dX7_allParts_1 : decode cX7_allParts 1 = .ok (.sipush 426, 3) := by decide +kernel
theorem dX7_allParts_4 : decode cX7_allParts 4 = .ok (.bipush 12, 2) := by decide +kernel
theorem dX7_allParts_6 : decode cX7_allParts 6 = .ok (.iload_n 1, 1) := by decide +kernel
theorem dX7_allParts_7 : decode cX7_allParts 7 = .ok (.imul, 1) := by decide +kernel
theorem dX7_allParts_8 : decode cX7_allParts 8 = .ok (.iadd, 1) := by decide +kernel
theorem dX7_allParts_9 : decode cX7_allParts 9 = .ok (.invokevirtual 51, 3) := by decide +kernel
theorem dX7_allParts_12 : decode cX7_allParts 12 = .ok (.ireturn, 1) := by decide +kernel
theorem dX7_addPen_0 : decode cX7_addPen 0 = .ok (.aload_n 0, 1) := by decide +kernel
theorem dX7_addPen_1 : decode cX7_addPen 1 = .ok (.iconst 0, 1) := by decide +kernel
theorem dX7_addPen_2 : decode cX7_addPen 2 = .ok (.putfield 40, 3) := by decide +kernel
theorem dX7_addPen_5 : decode cX7_addPen 5 = .ok (.aload_n 0, 1) := by decide +kernel
theorem dX7_addPen_6 : decode cX7_addPen 6 = .ok (.getfield 7, 3) := by decide +kernel
theorem dX7_addPen_9 : decode cX7_addPen 9 = .ok (.iconst 0, 1) := by decide +kernel
theorem dX7_addPen_10 : decode cX7_addPen 10 = .ok (.iaload, 1) := by decide +kernel
theorem dX7_addPen_11 : decode cX7_addPen 11 = .ok (.bipush 12, 2) := by decide +kernel
theorem dX7_addPen_13 : decode cX7_addPen 13 = .ok (.if_icmp .ne 9, 3) := by decide +kernel
theorem dX7_addPen_16 : decode cX7_addPen 16 = .ok (.aload_n 0, 1) := by decide +kernel
theorem dX7_addPen_17 : decode cX7_addPen 17 = .ok (.iconst 1, 1) := by decide +kernel
theorem dX7_addPen_18 : decode cX7_addPen 18 = .ok (.invokevirtual 55, 3) := by decide +kernel
theorem dX7_addPen_21 : decode cX7_addPen 21 = .ok (.ireturn, 1) := by decide +kernel
theorem dX7_addPen_22 : decode cX7_addPen 22 = .ok (.aload_n 0, 1) := by decide +kernel
theorem dX7_addPen_23 : decode cX7_addPen 23 = .ok (.invokevirtual 58, 3) := by decide +kernel
theorem dX7_addPen_26 : decode cX7_addPen 26 = .ok (.aload_n 0, 1) := by decide +kernel
theorem dX7_addPen_27 : decode cX7_addPen 27 = .ok (.getfield 7, 3) := by decide +kernel
theorem dX7_addPen_30 : decode cX7_addPen 30 = .ok (.bipush 14, 2) := by decide +kernel
theorem dX7_addPen_32 : decode cX7_addPen 32 = .ok (.bipush 6, 2) := by decide +kernel
theorem dX7_addPen_34 : decode cX7_addPen 34 = .ok (.aload_n 0, 1) := by decide +kernel
theorem dX7_addPen_35 : decode cX7_addPen 35 = .ok (.getfield 7, 3) := by decide +kernel
theorem dX7_addPen_38 : decode cX7_addPen 38 = .ok (.iconst 0, 1) := by decide +kernel
theorem dX7_addPen_39 : decode cX7_addPen 39 = .ok (.iaload, 1) := by decide +kernel
theorem dX7_addPen_40 : decode cX7_addPen 40 = .ok (.imul, 1) := by decide +kernel
theorem dX7_addPen_41 : decode cX7_addPen 41 = .ok (.iadd, 1) := by decide +kernel
theorem dX7_addPen_42 : decode cX7_addPen 42 = .ok (.iconst 3, 1) := by decide +kernel
theorem dX7_addPen_43 : decode cX7_addPen 43 = .ok (.iadd, 1) := by decide +kernel
theorem dX7_addPen_44 : decode cX7_addPen 44 = .ok (.aload_n 0, 1) := by decide +kernel
theorem dX7_addPen_45 : decode cX7_addPen 45 = .ok (.getfield 7, 3) := by decide +kernel
theorem dX7_addPen_48 : decode cX7_addPen 48 = .ok (.iconst 0, 1) := by decide +kernel
theorem dX7_addPen_49 : decode cX7_addPen 49 = .ok (.iaload, 1) := by decide +kernel
theorem dX7_addPen_50 : decode cX7_addPen 50 = .ok (.iastore, 1) := by decide +kernel
theorem dX7_addPen_51 : decode cX7_addPen 51 = .ok (.aload_n 0, 1) := by decide +kernel
theorem dX7_addPen_52 : decode cX7_addPen 52 = .ok (.getfield 7, 3) := by decide +kernel
theorem dX7_addPen_55 : decode cX7_addPen 55 = .ok (.iconst 0, 1) := by decide +kernel
theorem dX7_addPen_56 : decode cX7_addPen 56 = .ok (.dup2, 1) := by decide +kernel
theorem dX7_addPen_57 : decode cX7_addPen 57 = .ok (.iaload, 1) := by decide +kernel
theorem dX7_addPen_58 : decode cX7_addPen 58 = .ok (.iconst 1, 1) := by decide +kernel
theorem dX7_addPen_59 : decode cX7_addPen 59 = .ok (.iadd, 1) := by decide +kernel
theorem dX7_addPen_60 : decode cX7_addPen 60 = .ok (.iastore, 1) := by decide +kernel
theorem dX7_addPen_61 : decode cX7_addPen 61 = .ok (.aload_n 0, 1) := by decide +kernel
theorem dX7_addPen_62 : decode cX7_addPen 62 = .ok (.getfield 7, 3) := by decide +kernel
theorem dX7_addPen_65 : decode cX7_addPen 65 = .ok (.iconst 0, 1) := by decide +kernel
theorem dX7_addPen_66 : decode cX7_addPen 66 = .ok (.iaload, 1) := by decide +kernel
theorem dX7_addPen_67 : decode cX7_addPen 67 = .ok (.iconst 1, 1) := by decide +kernel
theorem dX7_addPen_68 : decode cX7_addPen 68 = .ok (.isub, 1) := by decide +kernel
theorem dX7_addPen_69 : decode cX7_addPen 69 = .ok (.ireturn, 1) := by decide +kernel
theorem dX7_sold_0 : decode cX7_sold 0 = .ok (.aload_n 0, 1) := by decide +kernel
theorem dX7_sold_1 : decode cX7_sold 1 = .ok (.iload_n 1, 1) := by decide +kernel
theorem dX7_sold_2 : decode cX7_sold 2 = .ok (.iconst 3, 1) := by decide +kernel
theorem dX7_sold_3 : decode cX7_sold 3 = .ok (.invokevirtual 61, 3) := by decide +kernel
theorem dX7_sold_6 : decode cX7_sold 6 = .ok (.istore 4, 2) := by decide +kernel
theorem dX7_sold_8 : decode cX7_sold 8 = .ok (.aload_n 0, 1) := by decide +kernel
theorem dX7_sold_9 : decode cX7_sold 9 = .ok (.getfield 7, 3) := by decide +kernel
theorem dX7_sold_12 : decode cX7_sold 12 = .ok (.bipush 14, 2) := by decide +kernel
theorem dX7_sold_14 : decode cX7_sold 14 = .ok (.bipush 6, 2) := by decide +kernel
theorem dX7_sold_16 : decode cX7_sold 16 = .ok (.iload_n 2, 1) := by decide +kernel
theorem dX7_sold_17 : decode cX7_sold 17 = .ok (.imul, 1) := by decide +kernel
theorem dX7_sold_18 : decode cX7_sold 18 = .ok (.iadd, 1) := by decide +kernel
theorem dX7_sold_19 : decode cX7_sold 19 = .ok (.dup2, 1) := by decide +kernel
theorem dX7_sold_20 : decode cX7_sold 20 = .ok (.iaload, 1) := by decide +kernel
theorem dX7_sold_21 : decode cX7_sold 21 = .ok (.iload_n 3, 1) := by decide +kernel
theorem dX7_sold_22 : decode cX7_sold 22 = .ok (.isub, 1) := by decide +kernel
theorem dX7_sold_23 : decode cX7_sold 23 = .ok (.iastore, 1) := by decide +kernel
theorem dX7_sold_24 : decode cX7_sold 24 = .ok (.aload_n 0, 1) := by decide +kernel
theorem dX7_sold_25 : decode cX7_sold 25 = .ok (.getfield 7, 3) := by decide +kernel
theorem dX7_sold_28 : decode cX7_sold 28 = .ok (.bipush 14, 2) := by decide +kernel
theorem dX7_sold_30 : decode cX7_sold 30 = .ok (.bipush 6, 2) := by decide +kernel
theorem dX7_sold_32 : decode cX7_sold 32 = .ok (.iload 4, 2) := by decide +kernel
theorem dX7_sold_34 : decode cX7_sold 34 = .ok (.imul, 1) := by decide +kernel
theorem dX7_sold_35 : decode cX7_sold 35 = .ok (.iadd, 1) := by decide +kernel
theorem dX7_sold_36 : decode cX7_sold 36 = .ok (.dup2, 1) := by decide +kernel
theorem dX7_sold_37 : decode cX7_sold 37 = .ok (.iaload, 1) := by decide +kernel
theorem dX7_sold_38 : decode cX7_sold 38 = .ok (.iload_n 3, 1) := by decide +kernel
theorem dX7_sold_39 : decode cX7_sold 39 = .ok (.iadd, 1) := by decide +kernel
theorem dX7_sold_40 : decode cX7_sold 40 = .ok (.iastore, 1) := by decide +kernel
theorem dX7_sold_41 : decode cX7_sold 41 = .ok (.aload_n 0, 1) := by decide +kernel
theorem dX7_sold_42 : decode cX7_sold 42 = .ok (.getfield 7, 3) := by decide +kernel
theorem dX7_sold_45 : decode cX7_sold 45 = .ok (.bipush 14, 2) := by decide +kernel
theorem dX7_sold_47 : decode cX7_sold 47 = .ok (.bipush 6, 2) := by decide +kernel
theorem dX7_sold_49 : decode cX7_sold 49 = .ok (.iload_n 1, 1) := by decide +kernel
theorem dX7_sold_50 : decode cX7_sold 50 = .ok (.imul, 1) := by decide +kernel
theorem dX7_sold_51 : decode cX7_sold 51 = .ok (.iadd, 1) := by decide +kernel
theorem dX7_sold_52 : decode cX7_sold 52 = .ok (.iconst 3, 1) := by decide +kernel
theorem dX7_sold_53 : decode cX7_sold 53 = .ok (.iadd, 1) := by decide +kernel
theorem dX7_sold_54 : decode cX7_sold 54 = .ok (.iload_n 2, 1) := by decide +kernel
theorem dX7_sold_55 : decode cX7_sold 55 = .ok (.iastore, 1) := by decide +kernel
theorem dX7_sold_56 : decode cX7_sold 56 = .ok (.aload_n 0, 1) := by decide +kernel
theorem dX7_sold_57 : decode cX7_sold 57 = .ok (.getfield 7, 3) := by decide +kernel
theorem dX7_sold_60 : decode cX7_sold 60 = .ok (.bipush 14, 2) := by decide +kernel
theorem dX7_sold_62 : decode cX7_sold 62 = .ok (.bipush 6, 2) := by decide +kernel
theorem dX7_sold_64 : decode cX7_sold 64 = .ok (.iload_n 1, 1) := by decide +kernel
theorem dX7_sold_65 : decode cX7_sold 65 = .ok (.imul, 1) := by decide +kernel
theorem dX7_sold_66 : decode cX7_sold 66 = .ok (.iadd, 1) := by decide +kernel
theorem dX7_sold_67 : decode cX7_sold 67 = .ok (.iconst 4, 1) := by decide +kernel
theorem dX7_sold_68 : decode cX7_sold 68 = .ok (.iadd, 1) := by decide +kernel
theorem dX7_sold_69 : decode cX7_sold 69 = .ok (.iload_n 3, 1) := by decide +kernel
theorem dX7_sold_70 : decode cX7_sold 70 = .ok (.iastore, 1) := by decide +kernel
theorem dX7_sold_71 : decode cX7_sold 71 = .ok (.iload 4, 2) := by decide +kernel
theorem dX7_sold_73 : decode cX7_sold 73 = .ok (.ireturn, 1) := by decide +kernel
theorem dX7_sell_0 : decode cX7_sell 0 = .ok (.aload_n 0, 1) := by decide +kernel
theorem dX7_sell_1 : decode cX7_sell 1 = .ok (.iconst 0, 1) := by decide +kernel
theorem dX7_sell_2 : decode cX7_sell 2 = .ok (.putfield 40, 3) := by decide +kernel
theorem dX7_sell_5 : decode cX7_sell 5 = .ok (.aload_n 0, 1) := by decide +kernel
theorem dX7_sell_6 : decode cX7_sell 6 = .ok (.iload_n 1, 1) := by decide +kernel
theorem dX7_sell_7 : decode cX7_sell 7 = .ok (.invokevirtual 65, 3) := by decide +kernel
theorem dX7_sell_10 : decode cX7_sell 10 = .ok (.ifCond .eq 11, 3) := by decide +kernel
theorem dX7_sell_13 : decode cX7_sell 13 = .ok (.aload_n 0, 1) := by decide +kernel
theorem dX7_sell_14 : decode cX7_sell 14 = .ok (.iload_n 2, 1) := by decide +kernel
theorem dX7_sell_15 : decode cX7_sell 15 = .ok (.invokevirtual 65, 3) := by decide +kernel
theorem dX7_sell_18 : decode cX7_sell 18 = .ok (.ifCond .ne 9, 3) := by decide +kernel
theorem dX7_sell_21 : decode cX7_sell 21 = .ok (.aload_n 0, 1) := by decide +kernel
theorem dX7_sell_22 : decode cX7_sell 22 = .ok (.iconst 1, 1) := by decide +kernel
theorem dX7_sell_23 : decode cX7_sell 23 = .ok (.invokevirtual 55, 3) := by decide +kernel
theorem dX7_sell_26 : decode cX7_sell 26 = .ok (.ireturn, 1) := by decide +kernel
theorem dX7_sell_27 : decode cX7_sell 27 = .ok (.iload_n 3, 1) := by decide +kernel
theorem dX7_sell_28 : decode cX7_sell 28 = .ok (.iconst 0, 1) := by decide +kernel
theorem dX7_sell_29 : decode cX7_sell 29 = .ok (.ldc 69, 2) := by decide +kernel
theorem dX7_sell_31 : decode cX7_sell 31 = .ok (.invokestatic 44, 3) := by decide +kernel
theorem dX7_sell_34 : decode cX7_sell 34 = .ok (.ifCond .eq 13, 3) := by decide +kernel
theorem dX7_sell_37 : decode cX7_sell 37 = .ok (.aload_n 0, 1) := by decide +kernel
theorem dX7_sell_38 : decode cX7_sell 38 = .ok (.iload_n 1, 1) := by decide +kernel
theorem dX7_sell_39 : decode cX7_sell 39 = .ok (.iconst 3, 1) := by decide +kernel
theorem dX7_sell_40 : decode cX7_sell 40 = .ok (.invokevirtual 61, 3) := by decide +kernel
theorem dX7_sell_43 : decode cX7_sell 43 = .ok (.iload_n 2, 1) := by decide +kernel
theorem dX7_sell_44 : decode cX7_sell 44 = .ok (.if_icmp .ne 9, 3) := by decide +kernel
theorem dX7_sell_47 : decode cX7_sell 47 = .ok (.aload_n 0, 1) := by decide +kernel
theorem dX7_sell_48 : decode cX7_sell 48 = .ok (.iconst 2, 1) := by decide +kernel
theorem dX7_sell_49 : decode cX7_sell 49 = .ok (.invokevirtual 55, 3) := by decide +kernel
theorem dX7_sell_52 : decode cX7_sell 52 = .ok (.ireturn, 1) := by decide +kernel
theorem dX7_sell_53 : decode cX7_sell 53 = .ok (.aload_n 0, 1) := by decide +kernel
theorem dX7_sell_54 : decode cX7_sell 54 = .ok (.iload_n 2, 1) := by decide +kernel
theorem dX7_sell_55 : decode cX7_sell 55 = .ok (.iconst 0, 1) := by decide +kernel
theorem dX7_sell_56 : decode cX7_sell 56 = .ok (.invokevirtual 61, 3) := by decide +kernel
theorem dX7_sell_59 : decode cX7_sell 59 = .ok (.iload_n 3, 1) := by decide +kernel
theorem dX7_sell_60 : decode cX7_sell 60 = .ok (.if_icmp .ge 9, 3) := by decide +kernel
theorem dX7_sell_63 : decode cX7_sell 63 = .ok (.aload_n 0, 1) := by decide +kernel
theorem dX7_sell_64 : decode cX7_sell 64 = .ok (.iconst 3, 1) := by decide +kernel
theorem dX7_sell_65 : decode cX7_sell 65 = .ok (.invokevirtual 55, 3) := by decide +kernel
theorem dX7_sell_68 : decode cX7_sell 68 = .ok (.ireturn, 1) := by decide +kernel
theorem dX7_sell_69 : decode cX7_sell 69 = .ok (.aload_n 0, 1) := by decide +kernel
theorem dX7_sell_70 : decode cX7_sell 70 = .ok (.invokevirtual 58, 3) := by decide +kernel
theorem dX7_sell_73 : decode cX7_sell 73 = .ok (.aload_n 0, 1) := by decide +kernel
theorem dX7_sell_74 : decode cX7_sell 74 = .ok (.iload_n 1, 1) := by decide +kernel
theorem dX7_sell_75 : decode cX7_sell 75 = .ok (.iload_n 2, 1) := by decide +kernel
theorem dX7_sell_76 : decode cX7_sell 76 = .ok (.iload_n 3, 1) := by decide +kernel
theorem dX7_sell_77 : decode cX7_sell 77 = .ok (.invokevirtual 70, 3) := by decide +kernel
theorem dX7_sell_80 : decode cX7_sell 80 = .ok (.ireturn, 1) := by decide +kernel
theorem dX7_buyBack_0 : decode cX7_buyBack 0 = .ok (.aload_n 0, 1) := by decide +kernel
theorem dX7_buyBack_1 : decode cX7_buyBack 1 = .ok (.iconst 0, 1) := by decide +kernel
theorem dX7_buyBack_2 : decode cX7_buyBack 2 = .ok (.putfield 40, 3) := by decide +kernel
theorem dX7_buyBack_5 : decode cX7_buyBack 5 = .ok (.aload_n 0, 1) := by decide +kernel
theorem dX7_buyBack_6 : decode cX7_buyBack 6 = .ok (.iload_n 1, 1) := by decide +kernel
theorem dX7_buyBack_7 : decode cX7_buyBack 7 = .ok (.invokevirtual 65, 3) := by decide +kernel
theorem dX7_buyBack_10 : decode cX7_buyBack 10 = .ok (.ifCond .ne 9, 3) := by decide +kernel
theorem dX7_buyBack_13 : decode cX7_buyBack 13 = .ok (.aload_n 0, 1) := by decide +kernel
theorem dX7_buyBack_14 : decode cX7_buyBack 14 = .ok (.iconst 1, 1) := by decide +kernel
theorem dX7_buyBack_15 : decode cX7_buyBack 15 = .ok (.invokevirtual 55, 3) := by decide +kernel
theorem dX7_buyBack_18 : decode cX7_buyBack 18 = .ok (.ireturn, 1) := by decide +kernel
theorem dX7_buyBack_19 : decode cX7_buyBack 19 = .ok (.aload_n 0, 1) := by decide +kernel
theorem dX7_buyBack_20 : decode cX7_buyBack 20 = .ok (.iload_n 1, 1) := by decide +kernel
theorem dX7_buyBack_21 : decode cX7_buyBack 21 = .ok (.iconst 4, 1) := by decide +kernel
theorem dX7_buyBack_22 : decode cX7_buyBack 22 = .ok (.invokevirtual 61, 3) := by decide +kernel
theorem dX7_buyBack_25 : decode cX7_buyBack 25 = .ok (.aload_n 0, 1) := by decide +kernel
theorem dX7_buyBack_26 : decode cX7_buyBack 26 = .ok (.iload_n 1, 1) := by decide +kernel
theorem dX7_buyBack_27 : decode cX7_buyBack 27 = .ok (.iconst 4, 1) := by decide +kernel
theorem dX7_buyBack_28 : decode cX7_buyBack 28 = .ok (.invokevirtual 61, 3) := by decide +kernel
theorem dX7_buyBack_31 : decode cX7_buyBack 31 = .ok (.bipush 10, 2) := by decide +kernel
theorem dX7_buyBack_33 : decode cX7_buyBack 33 = .ok (.idiv, 1) := by decide +kernel
theorem dX7_buyBack_34 : decode cX7_buyBack 34 = .ok (.iadd, 1) := by decide +kernel
theorem dX7_buyBack_35 : decode cX7_buyBack 35 = .ok (.istore_n 2, 1) := by decide +kernel
theorem dX7_buyBack_36 : decode cX7_buyBack 36 = .ok (.aload_n 0, 1) := by decide +kernel
theorem dX7_buyBack_37 : decode cX7_buyBack 37 = .ok (.iload_n 1, 1) := by decide +kernel
theorem dX7_buyBack_38 : decode cX7_buyBack 38 = .ok (.iconst 3, 1) := by decide +kernel
theorem dX7_buyBack_39 : decode cX7_buyBack 39 = .ok (.invokevirtual 61, 3) := by decide +kernel
theorem dX7_buyBack_42 : decode cX7_buyBack 42 = .ok (.iload_n 1, 1) := by decide +kernel
theorem dX7_buyBack_43 : decode cX7_buyBack 43 = .ok (.if_icmp .eq 13, 3) := by decide +kernel
theorem dX7_buyBack_46 : decode cX7_buyBack 46 = .ok (.aload_n 0, 1) := by decide +kernel
theorem dX7_buyBack_47 : decode cX7_buyBack 47 = .ok (.iload_n 1, 1) := by decide +kernel
theorem dX7_buyBack_48 : decode cX7_buyBack 48 = .ok (.iconst 0, 1) := by decide +kernel
theorem dX7_buyBack_49 : decode cX7_buyBack 49 = .ok (.invokevirtual 61, 3) := by decide +kernel
theorem dX7_buyBack_52 : decode cX7_buyBack 52 = .ok (.iload_n 2, 1) := by decide +kernel
theorem dX7_buyBack_53 : decode cX7_buyBack 53 = .ok (.if_icmp .ge 9, 3) := by decide +kernel
theorem dX7_buyBack_56 : decode cX7_buyBack 56 = .ok (.aload_n 0, 1) := by decide +kernel
theorem dX7_buyBack_57 : decode cX7_buyBack 57 = .ok (.iconst 2, 1) := by decide +kernel
theorem dX7_buyBack_58 : decode cX7_buyBack 58 = .ok (.invokevirtual 55, 3) := by decide +kernel
theorem dX7_buyBack_61 : decode cX7_buyBack 61 = .ok (.ireturn, 1) := by decide +kernel
theorem dX7_buyBack_62 : decode cX7_buyBack 62 = .ok (.aload_n 0, 1) := by decide +kernel
theorem dX7_buyBack_63 : decode cX7_buyBack 63 = .ok (.invokevirtual 58, 3) := by decide +kernel
theorem dX7_buyBack_66 : decode cX7_buyBack 66 = .ok (.aload_n 0, 1) := by decide +kernel
theorem dX7_buyBack_67 : decode cX7_buyBack 67 = .ok (.iload_n 1, 1) := by decide +kernel
theorem dX7_buyBack_68 : decode cX7_buyBack 68 = .ok (.iload_n 1, 1) := by decide +kernel
theorem dX7_buyBack_69 : decode cX7_buyBack 69 = .ok (.iload_n 2, 1) := by decide +kernel
theorem dX7_buyBack_70 : decode cX7_buyBack 70 = .ok (.invokevirtual 70, 3) := by decide +kernel
theorem dX7_buyBack_73 : decode cX7_buyBack 73 = .ok (.pop, 1) := by decide +kernel
theorem dX7_buyBack_74 : decode cX7_buyBack 74 = .ok (.iload_n 2, 1) := by decide +kernel
theorem dX7_buyBack_75 : decode cX7_buyBack 75 = .ok (.ireturn, 1) := by decide +kernel
theorem dX7_advance_0 : decode cX7_advance 0 = .ok (.aload_n 0, 1) := by decide +kernel
theorem dX7_advance_1 : decode cX7_advance 1 = .ok (.iconst 0, 1) := by decide +kernel
theorem dX7_advance_2 : decode cX7_advance 2 = .ok (.putfield 40, 3) := by decide +kernel
theorem dX7_advance_5 : decode cX7_advance 5 = .ok (.aload_n 0, 1) := by decide +kernel
theorem dX7_advance_6 : decode cX7_advance 6 = .ok (.iload_n 1, 1) := by decide +kernel
theorem dX7_advance_7 : decode cX7_advance 7 = .ok (.invokevirtual 65, 3) := by decide +kernel
theorem dX7_advance_10 : decode cX7_advance 10 = .ok (.ifCond .ne 9, 3) := by decide +kernel
theorem dX7_advance_13 : decode cX7_advance 13 = .ok (.aload_n 0, 1) := by decide +kernel
theorem dX7_advance_14 : decode cX7_advance 14 = .ok (.iconst 1, 1) := by decide +kernel
theorem dX7_advance_15 : decode cX7_advance 15 = .ok (.invokevirtual 55, 3) := by decide +kernel
theorem dX7_advance_18 : decode cX7_advance 18 = .ok (.ireturn, 1) := by decide +kernel
theorem dX7_advance_19 : decode cX7_advance 19 = .ok (.iload_n 2, 1) := by decide +kernel
theorem dX7_advance_20 : decode cX7_advance 20 = .ok (.iconst 1, 1) := by decide +kernel
theorem dX7_advance_21 : decode cX7_advance 21 = .ok (.ldc 69, 2) := by decide +kernel
theorem dX7_advance_23 : decode cX7_advance 23 = .ok (.invokestatic 44, 3) := by decide +kernel
theorem dX7_advance_26 : decode cX7_advance 26 = .ok (.ifCond .ne 9, 3) := by decide +kernel
theorem dX7_advance_29 : decode cX7_advance 29 = .ok (.aload_n 0, 1) := by decide +kernel
theorem dX7_advance_30 : decode cX7_advance 30 = .ok (.iconst 2, 1) := by decide +kernel
theorem dX7_advance_31 : decode cX7_advance 31 = .ok (.invokevirtual 55, 3) := by decide +kernel
theorem dX7_advance_34 : decode cX7_advance 34 = .ok (.ireturn, 1) := by decide +kernel
theorem dX7_advance_35 : decode cX7_advance 35 = .ok (.aload_n 0, 1) := by decide +kernel
theorem dX7_advance_36 : decode cX7_advance 36 = .ok (.getfield 7, 3) := by decide +kernel
theorem dX7_advance_39 : decode cX7_advance 39 = .ok (.iconst 3, 1) := by decide +kernel
theorem dX7_advance_40 : decode cX7_advance 40 = .ok (.iaload, 1) := by decide +kernel
theorem dX7_advance_41 : decode cX7_advance 41 = .ok (.iload_n 2, 1) := by decide +kernel
theorem dX7_advance_42 : decode cX7_advance 42 = .ok (.if_icmp .ge 9, 3) := by decide +kernel
theorem dX7_advance_45 : decode cX7_advance 45 = .ok (.aload_n 0, 1) := by decide +kernel
theorem dX7_advance_46 : decode cX7_advance 46 = .ok (.iconst 3, 1) := by decide +kernel
theorem dX7_advance_47 : decode cX7_advance 47 = .ok (.invokevirtual 55, 3) := by decide +kernel
theorem dX7_advance_50 : decode cX7_advance 50 = .ok (.ireturn, 1) := by decide +kernel
theorem dX7_advance_51 : decode cX7_advance 51 = .ok (.aload_n 0, 1) := by decide +kernel
theorem dX7_advance_52 : decode cX7_advance 52 = .ok (.invokevirtual 58, 3) := by decide +kernel
theorem dX7_advance_55 : decode cX7_advance 55 = .ok (.aload_n 0, 1) := by decide +kernel
theorem dX7_advance_56 : decode cX7_advance 56 = .ok (.getfield 7, 3) := by decide +kernel
theorem dX7_advance_59 : decode cX7_advance 59 = .ok (.iconst 3, 1) := by decide +kernel
theorem dX7_advance_60 : decode cX7_advance 60 = .ok (.dup2, 1) := by decide +kernel
theorem dX7_advance_61 : decode cX7_advance 61 = .ok (.iaload, 1) := by decide +kernel
theorem dX7_advance_62 : decode cX7_advance 62 = .ok (.iload_n 2, 1) := by decide +kernel
theorem dX7_advance_63 : decode cX7_advance 63 = .ok (.isub, 1) := by decide +kernel
theorem dX7_advance_64 : decode cX7_advance 64 = .ok (.iastore, 1) := by decide +kernel
theorem dX7_advance_65 : decode cX7_advance 65 = .ok (.aload_n 0, 1) := by decide +kernel
theorem dX7_advance_66 : decode cX7_advance 66 = .ok (.getfield 7, 3) := by decide +kernel
theorem dX7_advance_69 : decode cX7_advance 69 = .ok (.bipush 14, 2) := by decide +kernel
theorem dX7_advance_71 : decode cX7_advance 71 = .ok (.bipush 6, 2) := by decide +kernel
theorem dX7_advance_73 : decode cX7_advance 73 = .ok (.iload_n 1, 1) := by decide +kernel
theorem dX7_advance_74 : decode cX7_advance 74 = .ok (.imul, 1) := by decide +kernel
theorem dX7_advance_75 : decode cX7_advance 75 = .ok (.iadd, 1) := by decide +kernel
theorem dX7_advance_76 : decode cX7_advance 76 = .ok (.dup2, 1) := by decide +kernel
theorem dX7_advance_77 : decode cX7_advance 77 = .ok (.iaload, 1) := by decide +kernel
theorem dX7_advance_78 : decode cX7_advance 78 = .ok (.iload_n 2, 1) := by decide +kernel
theorem dX7_advance_79 : decode cX7_advance 79 = .ok (.iadd, 1) := by decide +kernel
theorem dX7_advance_80 : decode cX7_advance 80 = .ok (.iastore, 1) := by decide +kernel
theorem dX7_advance_81 : decode cX7_advance 81 = .ok (.aload_n 0, 1) := by decide +kernel
theorem dX7_advance_82 : decode cX7_advance 82 = .ok (.getfield 7, 3) := by decide +kernel
theorem dX7_advance_85 : decode cX7_advance 85 = .ok (.bipush 14, 2) := by decide +kernel
theorem dX7_advance_87 : decode cX7_advance 87 = .ok (.bipush 6, 2) := by decide +kernel
theorem dX7_advance_89 : decode cX7_advance 89 = .ok (.iload_n 1, 1) := by decide +kernel
theorem dX7_advance_90 : decode cX7_advance 90 = .ok (.imul, 1) := by decide +kernel
theorem dX7_advance_91 : decode cX7_advance 91 = .ok (.iadd, 1) := by decide +kernel
theorem dX7_advance_92 : decode cX7_advance 92 = .ok (.iconst 1, 1) := by decide +kernel
theorem dX7_advance_93 : decode cX7_advance 93 = .ok (.iadd, 1) := by decide +kernel
theorem dX7_advance_94 : decode cX7_advance 94 = .ok (.dup2, 1) := by decide +kernel
theorem dX7_advance_95 : decode cX7_advance 95 = .ok (.iaload, 1) := by decide +kernel
theorem dX7_advance_96 : decode cX7_advance 96 = .ok (.iload_n 2, 1) := by decide +kernel
theorem dX7_advance_97 : decode cX7_advance 97 = .ok (.iadd, 1) := by decide +kernel
theorem dX7_advance_98 : decode cX7_advance 98 = .ok (.iastore, 1) := by decide +kernel
theorem dX7_advance_99 : decode cX7_advance 99 = .ok (.aload_n 0, 1) := by decide +kernel
theorem dX7_advance_100 : decode cX7_advance 100 = .ok (.iload_n 1, 1) := by decide +kernel
theorem dX7_advance_101 : decode cX7_advance 101 = .ok (.iconst 1, 1) := by decide +kernel
theorem dX7_advance_102 : decode cX7_advance 102 = .ok (.invokevirtual 61, 3) := by decide +kernel
theorem dX7_advance_105 : decode cX7_advance 105 = .ok (.ireturn, 1) := by decide +kernel
theorem dX7_withdraw_0 : decode cX7_withdraw 0 = .ok (.aload_n 0, 1) := by decide +kernel
theorem dX7_withdraw_1 : decode cX7_withdraw 1 = .ok (.iconst 0, 1) := by decide +kernel
theorem dX7_withdraw_2 : decode cX7_withdraw 2 = .ok (.putfield 40, 3) := by decide +kernel
theorem dX7_withdraw_5 : decode cX7_withdraw 5 = .ok (.aload_n 0, 1) := by decide +kernel
theorem dX7_withdraw_6 : decode cX7_withdraw 6 = .ok (.iload_n 1, 1) := by decide +kernel
theorem dX7_withdraw_7 : decode cX7_withdraw 7 = .ok (.invokevirtual 65, 3) := by decide +kernel
theorem dX7_withdraw_10 : decode cX7_withdraw 10 = .ok (.ifCond .ne 9, 3) := by decide +kernel
theorem dX7_withdraw_13 : decode cX7_withdraw 13 = .ok (.aload_n 0, 1) := by decide +kernel
theorem dX7_withdraw_14 : decode cX7_withdraw 14 = .ok (.iconst 1, 1) := by decide +kernel
theorem dX7_withdraw_15 : decode cX7_withdraw 15 = .ok (.invokevirtual 55, 3) := by decide +kernel
theorem dX7_withdraw_18 : decode cX7_withdraw 18 = .ok (.ireturn, 1) := by decide +kernel
theorem dX7_withdraw_19 : decode cX7_withdraw 19 = .ok (.iload_n 2, 1) := by decide +kernel
theorem dX7_withdraw_20 : decode cX7_withdraw 20 = .ok (.iconst 1, 1) := by decide +kernel
theorem dX7_withdraw_21 : decode cX7_withdraw 21 = .ok (.ldc 69, 2) := by decide +kernel
theorem dX7_withdraw_23 : decode cX7_withdraw 23 = .ok (.invokestatic 44, 3) := by decide +kernel
theorem dX7_withdraw_26 : decode cX7_withdraw 26 = .ok (.ifCond .ne 9, 3) := by decide +kernel
theorem dX7_withdraw_29 : decode cX7_withdraw 29 = .ok (.aload_n 0, 1) := by decide +kernel
theorem dX7_withdraw_30 : decode cX7_withdraw 30 = .ok (.iconst 2, 1) := by decide +kernel
theorem dX7_withdraw_31 : decode cX7_withdraw 31 = .ok (.invokevirtual 55, 3) := by decide +kernel
theorem dX7_withdraw_34 : decode cX7_withdraw 34 = .ok (.ireturn, 1) := by decide +kernel
theorem dX7_withdraw_35 : decode cX7_withdraw 35 = .ok (.aload_n 0, 1) := by decide +kernel
theorem dX7_withdraw_36 : decode cX7_withdraw 36 = .ok (.iload_n 1, 1) := by decide +kernel
theorem dX7_withdraw_37 : decode cX7_withdraw 37 = .ok (.iconst 0, 1) := by decide +kernel
theorem dX7_withdraw_38 : decode cX7_withdraw 38 = .ok (.invokevirtual 61, 3) := by decide +kernel
theorem dX7_withdraw_41 : decode cX7_withdraw 41 = .ok (.iload_n 2, 1) := by decide +kernel
theorem dX7_withdraw_42 : decode cX7_withdraw 42 = .ok (.if_icmp .ge 9, 3) := by decide +kernel
theorem dX7_withdraw_45 : decode cX7_withdraw 45 = .ok (.aload_n 0, 1) := by decide +kernel
theorem dX7_withdraw_46 : decode cX7_withdraw 46 = .ok (.iconst 3, 1) := by decide +kernel
theorem dX7_withdraw_47 : decode cX7_withdraw 47 = .ok (.invokevirtual 55, 3) := by decide +kernel
theorem dX7_withdraw_50 : decode cX7_withdraw 50 = .ok (.ireturn, 1) := by decide +kernel
theorem dX7_withdraw_51 : decode cX7_withdraw 51 = .ok (.aload_n 0, 1) := by decide +kernel
theorem dX7_withdraw_52 : decode cX7_withdraw 52 = .ok (.invokevirtual 58, 3) := by decide +kernel
theorem dX7_withdraw_55 : decode cX7_withdraw 55 = .ok (.aload_n 0, 1) := by decide +kernel
theorem dX7_withdraw_56 : decode cX7_withdraw 56 = .ok (.getfield 7, 3) := by decide +kernel
theorem dX7_withdraw_59 : decode cX7_withdraw 59 = .ok (.bipush 14, 2) := by decide +kernel
theorem dX7_withdraw_61 : decode cX7_withdraw 61 = .ok (.bipush 6, 2) := by decide +kernel
theorem dX7_withdraw_63 : decode cX7_withdraw 63 = .ok (.iload_n 1, 1) := by decide +kernel
theorem dX7_withdraw_64 : decode cX7_withdraw 64 = .ok (.imul, 1) := by decide +kernel
theorem dX7_withdraw_65 : decode cX7_withdraw 65 = .ok (.iadd, 1) := by decide +kernel
theorem dX7_withdraw_66 : decode cX7_withdraw 66 = .ok (.dup2, 1) := by decide +kernel
theorem dX7_withdraw_67 : decode cX7_withdraw 67 = .ok (.iaload, 1) := by decide +kernel
theorem dX7_withdraw_68 : decode cX7_withdraw 68 = .ok (.iload_n 2, 1) := by decide +kernel
theorem dX7_withdraw_69 : decode cX7_withdraw 69 = .ok (.isub, 1) := by decide +kernel
theorem dX7_withdraw_70 : decode cX7_withdraw 70 = .ok (.iastore, 1) := by decide +kernel
theorem dX7_withdraw_71 : decode cX7_withdraw 71 = .ok (.aload_n 0, 1) := by decide +kernel
theorem dX7_withdraw_72 : decode cX7_withdraw 72 = .ok (.getfield 7, 3) := by decide +kernel
theorem dX7_withdraw_75 : decode cX7_withdraw 75 = .ok (.bipush 14, 2) := by decide +kernel
theorem dX7_withdraw_77 : decode cX7_withdraw 77 = .ok (.bipush 6, 2) := by decide +kernel
theorem dX7_withdraw_79 : decode cX7_withdraw 79 = .ok (.iload_n 1, 1) := by decide +kernel
theorem dX7_withdraw_80 : decode cX7_withdraw 80 = .ok (.imul, 1) := by decide +kernel
theorem dX7_withdraw_81 : decode cX7_withdraw 81 = .ok (.iadd, 1) := by decide +kernel
theorem dX7_withdraw_82 : decode cX7_withdraw 82 = .ok (.iconst 5, 1) := by decide +kernel
theorem dX7_withdraw_83 : decode cX7_withdraw 83 = .ok (.iadd, 1) := by decide +kernel
theorem dX7_withdraw_84 : decode cX7_withdraw 84 = .ok (.dup2, 1) := by decide +kernel
theorem dX7_withdraw_85 : decode cX7_withdraw 85 = .ok (.iaload, 1) := by decide +kernel
theorem dX7_withdraw_86 : decode cX7_withdraw 86 = .ok (.iload_n 2, 1) := by decide +kernel
theorem dX7_withdraw_87 : decode cX7_withdraw 87 = .ok (.iadd, 1) := by decide +kernel
theorem dX7_withdraw_88 : decode cX7_withdraw 88 = .ok (.iastore, 1) := by decide +kernel
theorem dX7_withdraw_89 : decode cX7_withdraw 89 = .ok (.aload_n 0, 1) := by decide +kernel
theorem dX7_withdraw_90 : decode cX7_withdraw 90 = .ok (.getfield 7, 3) := by decide +kernel
theorem dX7_withdraw_93 : decode cX7_withdraw 93 = .ok (.iconst 5, 1) := by decide +kernel
theorem dX7_withdraw_94 : decode cX7_withdraw 94 = .ok (.dup2, 1) := by decide +kernel
theorem dX7_withdraw_95 : decode cX7_withdraw 95 = .ok (.iaload, 1) := by decide +kernel
theorem dX7_withdraw_96 : decode cX7_withdraw 96 = .ok (.iload_n 2, 1) := by decide +kernel
theorem dX7_withdraw_97 : decode cX7_withdraw 97 = .ok (.iadd, 1) := by decide +kernel
theorem dX7_withdraw_98 : decode cX7_withdraw 98 = .ok (.iastore, 1) := by decide +kernel
theorem dX7_withdraw_99 : decode cX7_withdraw 99 = .ok (.aload_n 0, 1) := by decide +kernel
theorem dX7_withdraw_100 : decode cX7_withdraw 100 = .ok (.iload_n 1, 1) := by decide +kernel
theorem dX7_withdraw_101 : decode cX7_withdraw 101 = .ok (.iconst 0, 1) := by decide +kernel
theorem dX7_withdraw_102 : decode cX7_withdraw 102 = .ok (.invokevirtual 61, 3) := by decide +kernel
theorem dX7_withdraw_105 : decode cX7_withdraw 105 = .ok (.ireturn, 1) := by decide +kernel
theorem dX7_mostOf_0 : decode cX7_mostOf 0 = .ok (.iload_n 0, 1) := by decide +kernel
theorem dX7_mostOf_1 : decode cX7_mostOf 1 = .ok (.ifCond .ne 8, 3) := by decide +kernel
theorem dX7_mostOf_4 : decode cX7_mostOf 4 = .ok (.bipush 30, 2) := by decide +kernel
theorem dX7_mostOf_6 : decode cX7_mostOf 6 = .ok (.goto 26, 3) := by decide +kernel
theorem dX7_mostOf_9 : decode cX7_mostOf 9 = .ok (.iload_n 0, 1) := by decide +kernel
theorem dX7_mostOf_10 : decode cX7_mostOf 10 = .ok (.iconst 1, 1) := by decide +kernel
theorem dX7_mostOf_11 : decode cX7_mostOf 11 = .ok (.if_icmp .ne 8, 3) := by decide +kernel
theorem dX7_mostOf_14 : decode cX7_mostOf 14 = .ok (.bipush 20, 2) := by decide +kernel
theorem dX7_mostOf_16 : decode cX7_mostOf 16 = .ok (.goto 16, 3) := by decide +kernel
theorem dX7_mostOf_19 : decode cX7_mostOf 19 = .ok (.iload_n 0, 1) := by decide +kernel
theorem dX7_mostOf_20 : decode cX7_mostOf 20 = .ok (.iconst 2, 1) := by decide +kernel
theorem dX7_mostOf_21 : decode cX7_mostOf 21 = .ok (.if_icmp .ne 9, 3) := by decide +kernel
theorem dX7_mostOf_24 : decode cX7_mostOf 24 = .ok (.sipush 10000, 3) := by decide +kernel
theorem dX7_mostOf_27 : decode cX7_mostOf 27 = .ok (.goto 5, 3) := by decide +kernel
theorem dX7_mostOf_30 : decode cX7_mostOf 30 = .ok (.bipush 100, 2) := by decide +kernel
theorem dX7_mostOf_32 : decode cX7_mostOf 32 = .ok (.ireturn, 1) := by decide +kernel
theorem dX7_set_0 : decode cX7_set 0 = .ok (.aload_n 0, 1) := by decide +kernel
theorem dX7_set_1 : decode cX7_set 1 = .ok (.iconst 0, 1) := by decide +kernel
theorem dX7_set_2 : decode cX7_set 2 = .ok (.putfield 40, 3) := by decide +kernel
theorem dX7_set_5 : decode cX7_set 5 = .ok (.iload_n 1, 1) := by decide +kernel
theorem dX7_set_6 : decode cX7_set 6 = .ok (.iconst 0, 1) := by decide +kernel
theorem dX7_set_7 : decode cX7_set 7 = .ok (.iconst 5, 1) := by decide +kernel
theorem dX7_set_8 : decode cX7_set 8 = .ok (.invokestatic 44, 3) := by decide +kernel
theorem dX7_set_11 : decode cX7_set 11 = .ok (.ifCond .ne 9, 3) := by decide +kernel
theorem dX7_set_14 : decode cX7_set 14 = .ok (.aload_n 0, 1) := by decide +kernel
theorem dX7_set_15 : decode cX7_set 15 = .ok (.iconst 1, 1) := by decide +kernel
theorem dX7_set_16 : decode cX7_set 16 = .ok (.invokevirtual 55, 3) := by decide +kernel
theorem dX7_set_19 : decode cX7_set 19 = .ok (.ireturn, 1) := by decide +kernel
theorem dX7_set_20 : decode cX7_set 20 = .ok (.iload_n 2, 1) := by decide +kernel
theorem dX7_set_21 : decode cX7_set 21 = .ok (.iconst 0, 1) := by decide +kernel
theorem dX7_set_22 : decode cX7_set 22 = .ok (.iload_n 1, 1) := by decide +kernel
theorem dX7_set_23 : decode cX7_set 23 = .ok (.invokestatic 74, 3) := by decide +kernel
theorem dX7_set_26 : decode cX7_set 26 = .ok (.invokestatic 44, 3) := by decide +kernel
theorem dX7_set_29 : decode cX7_set 29 = .ok (.ifCond .ne 9, 3) := by decide +kernel
theorem dX7_set_32 : decode cX7_set 32 = .ok (.aload_n 0, 1) := by decide +kernel
theorem dX7_set_33 : decode cX7_set 33 = .ok (.iconst 2, 1) := by decide +kernel
theorem dX7_set_34 : decode cX7_set 34 = .ok (.invokevirtual 55, 3) := by decide +kernel
theorem dX7_set_37 : decode cX7_set 37 = .ok (.ireturn, 1) := by decide +kernel
theorem dX7_set_38 : decode cX7_set 38 = .ok (.aload_n 0, 1) := by decide +kernel
theorem dX7_set_39 : decode cX7_set 39 = .ok (.invokevirtual 58, 3) := by decide +kernel
theorem dX7_set_42 : decode cX7_set 42 = .ok (.aload_n 0, 1) := by decide +kernel
theorem dX7_set_43 : decode cX7_set 43 = .ok (.getfield 7, 3) := by decide +kernel
theorem dX7_set_46 : decode cX7_set 46 = .ok (.bipush 8, 2) := by decide +kernel
theorem dX7_set_48 : decode cX7_set 48 = .ok (.iload_n 1, 1) := by decide +kernel
theorem dX7_set_49 : decode cX7_set 49 = .ok (.iadd, 1) := by decide +kernel
theorem dX7_set_50 : decode cX7_set 50 = .ok (.iaload, 1) := by decide +kernel
theorem dX7_set_51 : decode cX7_set 51 = .ok (.istore_n 3, 1) := by decide +kernel
theorem dX7_set_52 : decode cX7_set 52 = .ok (.aload_n 0, 1) := by decide +kernel
theorem dX7_set_53 : decode cX7_set 53 = .ok (.getfield 7, 3) := by decide +kernel
theorem dX7_set_56 : decode cX7_set 56 = .ok (.bipush 8, 2) := by decide +kernel
theorem dX7_set_58 : decode cX7_set 58 = .ok (.iload_n 1, 1) := by decide +kernel
theorem dX7_set_59 : decode cX7_set 59 = .ok (.iadd, 1) := by decide +kernel
theorem dX7_set_60 : decode cX7_set 60 = .ok (.iload_n 2, 1) := by decide +kernel
theorem dX7_set_61 : decode cX7_set 61 = .ok (.iastore, 1) := by decide +kernel
theorem dX7_set_62 : decode cX7_set 62 = .ok (.iload_n 3, 1) := by decide +kernel
theorem dX7_set_63 : decode cX7_set 63 = .ok (.ireturn, 1) := by decide +kernel
theorem dX7_nextYear_0 : decode cX7_nextYear 0 = .ok (.aload_n 0, 1) := by decide +kernel
theorem dX7_nextYear_1 : decode cX7_nextYear 1 = .ok (.iconst 0, 1) := by decide +kernel
theorem dX7_nextYear_2 : decode cX7_nextYear 2 = .ok (.putfield 40, 3) := by decide +kernel
theorem dX7_nextYear_5 : decode cX7_nextYear 5 = .ok (.aload_n 0, 1) := by decide +kernel
theorem dX7_nextYear_6 : decode cX7_nextYear 6 = .ok (.invokevirtual 58, 3) := by decide +kernel
theorem dX7_nextYear_9 : decode cX7_nextYear 9 = .ok (.aload_n 0, 1) := by decide +kernel
theorem dX7_nextYear_10 : decode cX7_nextYear 10 = .ok (.getfield 7, 3) := by decide +kernel
theorem dX7_nextYear_13 : decode cX7_nextYear 13 = .ok (.iconst 2, 1) := by decide +kernel
theorem dX7_nextYear_14 : decode cX7_nextYear 14 = .ok (.dup2, 1) := by decide +kernel
theorem dX7_nextYear_15 : decode cX7_nextYear 15 = .ok (.iaload, 1) := by decide +kernel
theorem dX7_nextYear_16 : decode cX7_nextYear 16 = .ok (.iconst 1, 1) := by decide +kernel
theorem dX7_nextYear_17 : decode cX7_nextYear 17 = .ok (.iadd, 1) := by decide +kernel
theorem dX7_nextYear_18 : decode cX7_nextYear 18 = .ok (.iastore, 1) := by decide +kernel
theorem dX7_nextYear_19 : decode cX7_nextYear 19 = .ok (.sipush 666, 3) := by decide +kernel
theorem dX7_nextYear_22 : decode cX7_nextYear 22 = .ok (.istore_n 1, 1) := by decide +kernel
theorem dX7_nextYear_23 : decode cX7_nextYear 23 = .ok (.iload_n 1, 1) := by decide +kernel
theorem dX7_nextYear_24 : decode cX7_nextYear 24 = .ok (.sipush 906, 3) := by decide +kernel
theorem dX7_nextYear_27 : decode cX7_nextYear 27 = .ok (.if_icmp .ge 16, 3) := by decide +kernel
theorem dX7_nextYear_30 : decode cX7_nextYear 30 = .ok (.aload_n 0, 1) := by decide +kernel
theorem dX7_nextYear_31 : decode cX7_nextYear 31 = .ok (.getfield 7, 3) := by decide +kernel
theorem dX7_nextYear_34 : decode cX7_nextYear 34 = .ok (.iload_n 1, 1) := by decide +kernel
theorem dX7_nextYear_35 : decode cX7_nextYear 35 = .ok (.iconst 0, 1) := by decide +kernel
theorem dX7_nextYear_36 : decode cX7_nextYear 36 = .ok (.iastore, 1) := by decide +kernel
theorem dX7_nextYear_37 : decode cX7_nextYear 37 = .ok (.iinc 1 1, 3) := by decide +kernel
theorem dX7_nextYear_40 : decode cX7_nextYear 40 = .ok (.goto (-17), 3) := by decide +kernel
theorem dX7_nextYear_43 : decode cX7_nextYear 43 = .ok (.aload_n 0, 1) := by decide +kernel
theorem dX7_nextYear_44 : decode cX7_nextYear 44 = .ok (.getfield 7, 3) := by decide +kernel
theorem dX7_nextYear_47 : decode cX7_nextYear 47 = .ok (.iconst 2, 1) := by decide +kernel
theorem dX7_nextYear_48 : decode cX7_nextYear 48 = .ok (.iaload, 1) := by decide +kernel
theorem dX7_nextYear_49 : decode cX7_nextYear 49 = .ok (.ireturn, 1) := by decide +kernel
theorem dX7_order_0 : decode cX7_order 0 = .ok (.aload_n 0, 1) := by decide +kernel
theorem dX7_order_1 : decode cX7_order 1 = .ok (.iconst 0, 1) := by decide +kernel
theorem dX7_order_2 : decode cX7_order 2 = .ok (.putfield 40, 3) := by decide +kernel
theorem dX7_order_5 : decode cX7_order 5 = .ok (.aload_n 0, 1) := by decide +kernel
theorem dX7_order_6 : decode cX7_order 6 = .ok (.iload_n 1, 1) := by decide +kernel
theorem dX7_order_7 : decode cX7_order 7 = .ok (.invokevirtual 65, 3) := by decide +kernel
theorem dX7_order_10 : decode cX7_order 10 = .ok (.ifCond .ne 9, 3) := by decide +kernel
theorem dX7_order_13 : decode cX7_order 13 = .ok (.aload_n 0, 1) := by decide +kernel
theorem dX7_order_14 : decode cX7_order 14 = .ok (.iconst 1, 1) := by decide +kernel
theorem dX7_order_15 : decode cX7_order 15 = .ok (.invokevirtual 55, 3) := by decide +kernel
theorem dX7_order_18 : decode cX7_order 18 = .ok (.ireturn, 1) := by decide +kernel
theorem dX7_order_19 : decode cX7_order 19 = .ok (.iload_n 2, 1) := by decide +kernel
theorem dX7_order_20 : decode cX7_order 20 = .ok (.bipush 10, 2) := by decide +kernel
theorem dX7_order_22 : decode cX7_order 22 = .ok (.ldc 69, 2) := by decide +kernel
theorem dX7_order_24 : decode cX7_order 24 = .ok (.invokestatic 44, 3) := by decide +kernel
theorem dX7_order_27 : decode cX7_order 27 = .ok (.ifCond .ne 9, 3) := by decide +kernel
theorem dX7_order_30 : decode cX7_order 30 = .ok (.aload_n 0, 1) := by decide +kernel
theorem dX7_order_31 : decode cX7_order 31 = .ok (.iconst 2, 1) := by decide +kernel
theorem dX7_order_32 : decode cX7_order 32 = .ok (.invokevirtual 55, 3) := by decide +kernel
theorem dX7_order_35 : decode cX7_order 35 = .ok (.ireturn, 1) := by decide +kernel
theorem dX7_order_36 : decode cX7_order 36 = .ok (.aload_n 0, 1) := by decide +kernel
theorem dX7_order_37 : decode cX7_order 37 = .ok (.getfield 7, 3) := by decide +kernel
theorem dX7_order_40 : decode cX7_order 40 = .ok (.iconst 1, 1) := by decide +kernel
theorem dX7_order_41 : decode cX7_order 41 = .ok (.iaload, 1) := by decide +kernel
theorem dX7_order_42 : decode cX7_order 42 = .ok (.bipush 20, 2) := by decide +kernel
theorem dX7_order_44 : decode cX7_order 44 = .ok (.if_icmp .ne 9, 3) := by decide +kernel
theorem dX7_order_47 : decode cX7_order 47 = .ok (.aload_n 0, 1) := by decide +kernel
theorem dX7_order_48 : decode cX7_order 48 = .ok (.iconst 3, 1) := by decide +kernel
theorem dX7_order_49 : decode cX7_order 49 = .ok (.invokevirtual 55, 3) := by decide +kernel
theorem dX7_order_52 : decode cX7_order 52 = .ok (.ireturn, 1) := by decide +kernel
theorem dX7_order_53 : decode cX7_order 53 = .ok (.aload_n 0, 1) := by decide +kernel
theorem dX7_order_54 : decode cX7_order 54 = .ok (.invokevirtual 58, 3) := by decide +kernel
theorem dX7_order_57 : decode cX7_order 57 = .ok (.aload_n 0, 1) := by decide +kernel
theorem dX7_order_58 : decode cX7_order 58 = .ok (.getfield 7, 3) := by decide +kernel
theorem dX7_order_61 : decode cX7_order 61 = .ok (.iconst 1, 1) := by decide +kernel
theorem dX7_order_62 : decode cX7_order 62 = .ok (.iaload, 1) := by decide +kernel
theorem dX7_order_63 : decode cX7_order 63 = .ok (.istore_n 3, 1) := by decide +kernel
theorem dX7_order_64 : decode cX7_order 64 = .ok (.aload_n 0, 1) := by decide +kernel
theorem dX7_order_65 : decode cX7_order 65 = .ok (.getfield 7, 3) := by decide +kernel
theorem dX7_order_68 : decode cX7_order 68 = .ok (.bipush 86, 2) := by decide +kernel
theorem dX7_order_70 : decode cX7_order 70 = .ok (.iconst 5, 1) := by decide +kernel
theorem dX7_order_71 : decode cX7_order 71 = .ok (.iload_n 3, 1) := by decide +kernel
theorem dX7_order_72 : decode cX7_order 72 = .ok (.imul, 1) := by decide +kernel
theorem dX7_order_73 : decode cX7_order 73 = .ok (.iadd, 1) := by decide +kernel
theorem dX7_order_74 : decode cX7_order 74 = .ok (.iload_n 1, 1) := by decide +kernel
theorem dX7_order_75 : decode cX7_order 75 = .ok (.iastore, 1) := by decide +kernel
theorem dX7_order_76 : decode cX7_order 76 = .ok (.aload_n 0, 1) := by decide +kernel
theorem dX7_order_77 : decode cX7_order 77 = .ok (.getfield 7, 3) := by decide +kernel
theorem dX7_order_80 : decode cX7_order 80 = .ok (.bipush 86, 2) := by decide +kernel
theorem dX7_order_82 : decode cX7_order 82 = .ok (.iconst 5, 1) := by decide +kernel
theorem dX7_order_83 : decode cX7_order 83 = .ok (.iload_n 3, 1) := by decide +kernel
theorem dX7_order_84 : decode cX7_order 84 = .ok (.imul, 1) := by decide +kernel
theorem dX7_order_85 : decode cX7_order 85 = .ok (.iadd, 1) := by decide +kernel
theorem dX7_order_86 : decode cX7_order 86 = .ok (.iconst 1, 1) := by decide +kernel
theorem dX7_order_87 : decode cX7_order 87 = .ok (.iadd, 1) := by decide +kernel
theorem dX7_order_88 : decode cX7_order 88 = .ok (.iload_n 2, 1) := by decide +kernel
theorem dX7_order_89 : decode cX7_order 89 = .ok (.iastore, 1) := by decide +kernel
theorem dX7_order_90 : decode cX7_order 90 = .ok (.aload_n 0, 1) := by decide +kernel
theorem dX7_order_91 : decode cX7_order 91 = .ok (.getfield 7, 3) := by decide +kernel
theorem dX7_order_94 : decode cX7_order 94 = .ok (.bipush 86, 2) := by decide +kernel
theorem dX7_order_96 : decode cX7_order 96 = .ok (.iconst 5, 1) := by decide +kernel
theorem dX7_order_97 : decode cX7_order 97 = .ok (.iload_n 3, 1) := by decide +kernel
theorem dX7_order_98 : decode cX7_order 98 = .ok (.imul, 1) := by decide +kernel
theorem dX7_order_99 : decode cX7_order 99 = .ok (.iadd, 1) := by decide +kernel
theorem dX7_order_100 : decode cX7_order 100 = .ok (.iconst 2, 1) := by decide +kernel
theorem dX7_order_101 : decode cX7_order 101 = .ok (.iadd, 1) := by decide +kernel
theorem dX7_order_102 : decode cX7_order 102 = .ok (.iconst 0, 1) := by decide +kernel
theorem dX7_order_103 : decode cX7_order 103 = .ok (.iastore, 1) := by decide +kernel
theorem dX7_order_104 : decode cX7_order 104 = .ok (.aload_n 0, 1) := by decide +kernel
theorem dX7_order_105 : decode cX7_order 105 = .ok (.getfield 7, 3) := by decide +kernel
theorem dX7_order_108 : decode cX7_order 108 = .ok (.bipush 86, 2) := by decide +kernel
theorem dX7_order_110 : decode cX7_order 110 = .ok (.iconst 5, 1) := by decide +kernel
theorem dX7_order_111 : decode cX7_order 111 = .ok (.iload_n 3, 1) := by decide +kernel
theorem dX7_order_112 : decode cX7_order 112 = .ok (.imul, 1) := by decide +kernel
theorem dX7_order_113 : decode cX7_order 113 = .ok (.iadd, 1) := by decide +kernel
theorem dX7_order_114 : decode cX7_order 114 = .ok (.iconst 3, 1) := by decide +kernel
theorem dX7_order_115 : decode cX7_order 115 = .ok (.iadd, 1) := by decide +kernel
theorem dX7_order_116 : decode cX7_order 116 = .ok (.iconst 1, 1) := by decide +kernel
theorem dX7_order_117 : decode cX7_order 117 = .ok (.iastore, 1) := by decide +kernel
theorem dX7_order_118 : decode cX7_order 118 = .ok (.aload_n 0, 1) := by decide +kernel
theorem dX7_order_119 : decode cX7_order 119 = .ok (.getfield 7, 3) := by decide +kernel
theorem dX7_order_122 : decode cX7_order 122 = .ok (.bipush 86, 2) := by decide +kernel
theorem dX7_order_124 : decode cX7_order 124 = .ok (.iconst 5, 1) := by decide +kernel
theorem dX7_order_125 : decode cX7_order 125 = .ok (.iload_n 3, 1) := by decide +kernel
theorem dX7_order_126 : decode cX7_order 126 = .ok (.imul, 1) := by decide +kernel
theorem dX7_order_127 : decode cX7_order 127 = .ok (.iadd, 1) := by decide +kernel
theorem dX7_order_128 : decode cX7_order 128 = .ok (.iconst 4, 1) := by decide +kernel
theorem dX7_order_129 : decode cX7_order 129 = .ok (.iadd, 1) := by decide +kernel
theorem dX7_order_130 : decode cX7_order 130 = .ok (.iconst 0, 1) := by decide +kernel
theorem dX7_order_131 : decode cX7_order 131 = .ok (.iastore, 1) := by decide +kernel
theorem dX7_order_132 : decode cX7_order 132 = .ok (.aload_n 0, 1) := by decide +kernel
theorem dX7_order_133 : decode cX7_order 133 = .ok (.getfield 7, 3) := by decide +kernel
theorem dX7_order_136 : decode cX7_order 136 = .ok (.sipush 426, 3) := by decide +kernel
theorem dX7_order_139 : decode cX7_order 139 = .ok (.bipush 12, 2) := by decide +kernel
theorem dX7_order_141 : decode cX7_order 141 = .ok (.iload_n 3, 1) := by decide +kernel
theorem dX7_order_142 : decode cX7_order 142 = .ok (.imul, 1) := by decide +kernel
theorem dX7_order_143 : decode cX7_order 143 = .ok (.iadd, 1) := by decide +kernel
theorem dX7_order_144 : decode cX7_order 144 = .ok (.iload_n 1, 1) := by decide +kernel
theorem dX7_order_145 : decode cX7_order 145 = .ok (.iadd, 1) := by decide +kernel
theorem dX7_order_146 : decode cX7_order 146 = .ok (.iconst 1, 1) := by decide +kernel
theorem dX7_order_147 : decode cX7_order 147 = .ok (.iastore, 1) := by decide +kernel
theorem dX7_order_148 : decode cX7_order 148 = .ok (.aload_n 0, 1) := by decide +kernel
theorem dX7_order_149 : decode cX7_order 149 = .ok (.getfield 7, 3) := by decide +kernel
theorem dX7_order_152 : decode cX7_order 152 = .ok (.iconst 1, 1) := by decide +kernel
theorem dX7_order_153 : decode cX7_order 153 = .ok (.dup2, 1) := by decide +kernel
theorem dX7_order_154 : decode cX7_order 154 = .ok (.iaload, 1) := by decide +kernel
theorem dX7_order_155 : decode cX7_order 155 = .ok (.iconst 1, 1) := by decide +kernel
theorem dX7_order_156 : decode cX7_order 156 = .ok (.iadd, 1) := by decide +kernel
theorem dX7_order_157 : decode cX7_order 157 = .ok (.iastore, 1) := by decide +kernel
theorem dX7_order_158 : decode cX7_order 158 = .ok (.iload_n 3, 1) := by decide +kernel
theorem dX7_order_159 : decode cX7_order 159 = .ok (.ireturn, 1) := by decide +kernel
theorem dX7_draft_0 : decode cX7_draft 0 = .ok (.aload_n 0, 1) := by decide +kernel
theorem dX7_draft_1 : decode cX7_draft 1 = .ok (.iconst 0, 1) := by decide +kernel
theorem dX7_draft_2 : decode cX7_draft 2 = .ok (.putfield 40, 3) := by decide +kernel
theorem dX7_draft_5 : decode cX7_draft 5 = .ok (.aload_n 0, 1) := by decide +kernel
theorem dX7_draft_6 : decode cX7_draft 6 = .ok (.iload_n 1, 1) := by decide +kernel
theorem dX7_draft_7 : decode cX7_draft 7 = .ok (.invokevirtual 77, 3) := by decide +kernel
theorem dX7_draft_10 : decode cX7_draft 10 = .ok (.ifCond .eq 11, 3) := by decide +kernel
theorem dX7_draft_13 : decode cX7_draft 13 = .ok (.aload_n 0, 1) := by decide +kernel
theorem dX7_draft_14 : decode cX7_draft 14 = .ok (.iload_n 2, 1) := by decide +kernel
theorem dX7_draft_15 : decode cX7_draft 15 = .ok (.invokevirtual 65, 3) := by decide +kernel
theorem dX7_draft_18 : decode cX7_draft 18 = .ok (.ifCond .ne 9, 3) := by decide +kernel
theorem dX7_draft_21 : decode cX7_draft 21 = .ok (.aload_n 0, 1) := by decide +kernel
theorem dX7_draft_22 : decode cX7_draft 22 = .ok (.iconst 1, 1) := by decide +kernel
theorem dX7_draft_23 : decode cX7_draft 23 = .ok (.invokevirtual 55, 3) := by decide +kernel
theorem dX7_draft_26 : decode cX7_draft 26 = .ok (.ireturn, 1) := by decide +kernel
theorem dX7_draft_27 : decode cX7_draft 27 = .ok (.aload_n 0, 1) := by decide +kernel
theorem dX7_draft_28 : decode cX7_draft 28 = .ok (.iload_n 1, 1) := by decide +kernel
theorem dX7_draft_29 : decode cX7_draft 29 = .ok (.iconst 2, 1) := by decide +kernel
theorem dX7_draft_30 : decode cX7_draft 30 = .ok (.invokevirtual 80, 3) := by decide +kernel
theorem dX7_draft_33 : decode cX7_draft 33 = .ok (.iconst 3, 1) := by decide +kernel
theorem dX7_draft_34 : decode cX7_draft 34 = .ok (.if_icmp .ge 13, 3) := by decide +kernel
theorem dX7_draft_37 : decode cX7_draft 37 = .ok (.aload_n 0, 1) := by decide +kernel
theorem dX7_draft_38 : decode cX7_draft 38 = .ok (.iload_n 1, 1) := by decide +kernel
theorem dX7_draft_39 : decode cX7_draft 39 = .ok (.invokevirtual 83, 3) := by decide +kernel
theorem dX7_draft_42 : decode cX7_draft 42 = .ok (.bipush 9, 2) := by decide +kernel
theorem dX7_draft_44 : decode cX7_draft 44 = .ok (.if_icmp .ne 9, 3) := by decide +kernel
theorem dX7_draft_47 : decode cX7_draft 47 = .ok (.aload_n 0, 1) := by decide +kernel
theorem dX7_draft_48 : decode cX7_draft 48 = .ok (.iconst 2, 1) := by decide +kernel
theorem dX7_draft_49 : decode cX7_draft 49 = .ok (.invokevirtual 55, 3) := by decide +kernel
theorem dX7_draft_52 : decode cX7_draft 52 = .ok (.ireturn, 1) := by decide +kernel
theorem dX7_draft_53 : decode cX7_draft 53 = .ok (.aload_n 0, 1) := by decide +kernel
theorem dX7_draft_54 : decode cX7_draft 54 = .ok (.invokevirtual 58, 3) := by decide +kernel
theorem dX7_draft_57 : decode cX7_draft 57 = .ok (.aload_n 0, 1) := by decide +kernel
theorem dX7_draft_58 : decode cX7_draft 58 = .ok (.iload_n 1, 1) := by decide +kernel
theorem dX7_draft_59 : decode cX7_draft 59 = .ok (.invokevirtual 83, 3) := by decide +kernel
theorem dX7_draft_62 : decode cX7_draft 62 = .ok (.ifCond .ne 7, 3) := by decide +kernel
theorem dX7_draft_65 : decode cX7_draft 65 = .ok (.iconst 1, 1) := by decide +kernel
theorem dX7_draft_66 : decode cX7_draft 66 = .ok (.goto 4, 3) := by decide +kernel
theorem dX7_draft_69 : decode cX7_draft 69 = .ok (.iconst 2, 1) := by decide +kernel
theorem dX7_draft_70 : decode cX7_draft 70 = .ok (.istore_n 3, 1) := by decide +kernel
theorem dX7_draft_71 : decode cX7_draft 71 = .ok (.aload_n 0, 1) := by decide +kernel
theorem dX7_draft_72 : decode cX7_draft 72 = .ok (.getfield 7, 3) := by decide +kernel
theorem dX7_draft_75 : decode cX7_draft 75 = .ok (.sipush 186, 3) := by decide +kernel
theorem dX7_draft_78 : decode cX7_draft 78 = .ok (.bipush 12, 2) := by decide +kernel
theorem dX7_draft_80 : decode cX7_draft 80 = .ok (.iload_n 1, 1) := by decide +kernel
theorem dX7_draft_81 : decode cX7_draft 81 = .ok (.imul, 1) := by decide +kernel
theorem dX7_draft_82 : decode cX7_draft 82 = .ok (.iadd, 1) := by decide +kernel
theorem dX7_draft_83 : decode cX7_draft 83 = .ok (.iload_n 2, 1) := by decide +kernel
theorem dX7_draft_84 : decode cX7_draft 84 = .ok (.iadd, 1) := by decide +kernel
theorem dX7_draft_85 : decode cX7_draft 85 = .ok (.dup2, 1) := by decide +kernel
theorem dX7_draft_86 : decode cX7_draft 86 = .ok (.iaload, 1) := by decide +kernel
theorem dX7_draft_87 : decode cX7_draft 87 = .ok (.iconst 1, 1) := by decide +kernel
theorem dX7_draft_88 : decode cX7_draft 88 = .ok (.iadd, 1) := by decide +kernel
theorem dX7_draft_89 : decode cX7_draft 89 = .ok (.iastore, 1) := by decide +kernel
theorem dX7_draft_90 : decode cX7_draft 90 = .ok (.aload_n 0, 1) := by decide +kernel
theorem dX7_draft_91 : decode cX7_draft 91 = .ok (.getfield 7, 3) := by decide +kernel
theorem dX7_draft_94 : decode cX7_draft 94 = .ok (.bipush 86, 2) := by decide +kernel
theorem dX7_draft_96 : decode cX7_draft 96 = .ok (.iconst 5, 1) := by decide +kernel
theorem dX7_draft_97 : decode cX7_draft 97 = .ok (.iload_n 1, 1) := by decide +kernel
theorem dX7_draft_98 : decode cX7_draft 98 = .ok (.imul, 1) := by decide +kernel
theorem dX7_draft_99 : decode cX7_draft 99 = .ok (.iadd, 1) := by decide +kernel
theorem dX7_draft_100 : decode cX7_draft 100 = .ok (.iconst 2, 1) := by decide +kernel
theorem dX7_draft_101 : decode cX7_draft 101 = .ok (.iadd, 1) := by decide +kernel
theorem dX7_draft_102 : decode cX7_draft 102 = .ok (.iload_n 3, 1) := by decide +kernel
theorem dX7_draft_103 : decode cX7_draft 103 = .ok (.iastore, 1) := by decide +kernel
theorem dX7_draft_104 : decode cX7_draft 104 = .ok (.iload_n 3, 1) := by decide +kernel
theorem dX7_draft_105 : decode cX7_draft 105 = .ok (.ireturn, 1) := by decide +kernel
theorem dX7_revise_0 : decode cX7_revise 0 = .ok (.aload_n 0, 1) := by decide +kernel
theorem dX7_revise_1 : decode cX7_revise 1 = .ok (.iconst 0, 1) := by decide +kernel
theorem dX7_revise_2 : decode cX7_revise 2 = .ok (.putfield 40, 3) := by decide +kernel
theorem dX7_revise_5 : decode cX7_revise 5 = .ok (.aload_n 0, 1) := by decide +kernel
theorem dX7_revise_6 : decode cX7_revise 6 = .ok (.iload_n 1, 1) := by decide +kernel
theorem dX7_revise_7 : decode cX7_revise 7 = .ok (.invokevirtual 77, 3) := by decide +kernel
theorem dX7_revise_10 : decode cX7_revise 10 = .ok (.ifCond .ne 9, 3) := by decide +kernel
theorem dX7_revise_13 : decode cX7_revise 13 = .ok (.aload_n 0, 1) := by decide +kernel
theorem dX7_revise_14 : decode cX7_revise 14 = .ok (.iconst 1, 1) := by decide +kernel
theorem dX7_revise_15 : decode cX7_revise 15 = .ok (.invokevirtual 55, 3) := by decide +kernel
theorem dX7_revise_18 : decode cX7_revise 18 = .ok (.ireturn, 1) := by decide +kernel
theorem dX7_revise_19 : decode cX7_revise 19 = .ok (.iload_n 2, 1) := by decide +kernel
theorem dX7_revise_20 : decode cX7_revise 20 = .ok (.bipush 10, 2) := by decide +kernel
theorem dX7_revise_22 : decode cX7_revise 22 = .ok (.ldc 69, 2) := by decide +kernel
theorem dX7_revise_24 : decode cX7_revise 24 = .ok (.invokestatic 44, 3) := by decide +kernel
theorem dX7_revise_27 : decode cX7_revise 27 = .ok (.ifCond .ne 9, 3) := by decide +kernel
theorem dX7_revise_30 : decode cX7_revise 30 = .ok (.aload_n 0, 1) := by decide +kernel
theorem dX7_revise_31 : decode cX7_revise 31 = .ok (.iconst 2, 1) := by decide +kernel
theorem dX7_revise_32 : decode cX7_revise 32 = .ok (.invokevirtual 55, 3) := by decide +kernel
theorem dX7_revise_35 : decode cX7_revise 35 = .ok (.ireturn, 1) := by decide +kernel
theorem dX7_revise_36 : decode cX7_revise 36 = .ok (.aload_n 0, 1) := by decide +kernel
theorem dX7_revise_37 : decode cX7_revise 37 = .ok (.iload_n 1, 1) := by decide +kernel
theorem dX7_revise_38 : decode cX7_revise 38 = .ok (.iconst 2, 1) := by decide +kernel
theorem dX7_revise_39 : decode cX7_revise 39 = .ok (.invokevirtual 80, 3) := by decide +kernel
theorem dX7_revise_42 : decode cX7_revise 42 = .ok (.iconst 3, 1) := by decide +kernel
theorem dX7_revise_43 : decode cX7_revise 43 = .ok (.if_icmp .lt 9, 3) := by decide +kernel
theorem dX7_revise_46 : decode cX7_revise 46 = .ok (.aload_n 0, 1) := by decide +kernel
theorem dX7_revise_47 : decode cX7_revise 47 = .ok (.iconst 3, 1) := by decide +kernel
theorem dX7_revise_48 : decode cX7_revise 48 = .ok (.invokevirtual 55, 3) := by decide +kernel
theorem dX7_revise_51 : decode cX7_revise 51 = .ok (.ireturn, 1) := by decide +kernel
theorem dX7_revise_52 : decode cX7_revise 52 = .ok (.aload_n 0, 1) := by decide +kernel
theorem dX7_revise_53 : decode cX7_revise 53 = .ok (.invokevirtual 58, 3) := by decide +kernel
theorem dX7_revise_56 : decode cX7_revise 56 = .ok (.aload_n 0, 1) := by decide +kernel
theorem dX7_revise_57 : decode cX7_revise 57 = .ok (.iload_n 1, 1) := by decide +kernel
theorem dX7_revise_58 : decode cX7_revise 58 = .ok (.iconst 1, 1) := by decide +kernel
theorem dX7_revise_59 : decode cX7_revise 59 = .ok (.invokevirtual 80, 3) := by decide +kernel
theorem dX7_revise_62 : decode cX7_revise 62 = .ok (.istore_n 3, 1) := by decide +kernel
theorem dX7_revise_63 : decode cX7_revise 63 = .ok (.aload_n 0, 1) := by decide +kernel
theorem dX7_revise_64 : decode cX7_revise 64 = .ok (.getfield 7, 3) := by decide +kernel
theorem dX7_revise_67 : decode cX7_revise 67 = .ok (.bipush 86, 2) := by decide +kernel
theorem dX7_revise_69 : decode cX7_revise 69 = .ok (.iconst 5, 1) := by decide +kernel
theorem dX7_revise_70 : decode cX7_revise 70 = .ok (.iload_n 1, 1) := by decide +kernel
theorem dX7_revise_71 : decode cX7_revise 71 = .ok (.imul, 1) := by decide +kernel
theorem dX7_revise_72 : decode cX7_revise 72 = .ok (.iadd, 1) := by decide +kernel
theorem dX7_revise_73 : decode cX7_revise 73 = .ok (.iconst 1, 1) := by decide +kernel
theorem dX7_revise_74 : decode cX7_revise 74 = .ok (.iadd, 1) := by decide +kernel
theorem dX7_revise_75 : decode cX7_revise 75 = .ok (.iload_n 2, 1) := by decide +kernel
theorem dX7_revise_76 : decode cX7_revise 76 = .ok (.iastore, 1) := by decide +kernel
theorem dX7_revise_77 : decode cX7_revise 77 = .ok (.aload_n 0, 1) := by decide +kernel
theorem dX7_revise_78 : decode cX7_revise 78 = .ok (.getfield 7, 3) := by decide +kernel
theorem dX7_revise_81 : decode cX7_revise 81 = .ok (.bipush 86, 2) := by decide +kernel
theorem dX7_revise_83 : decode cX7_revise 83 = .ok (.iconst 5, 1) := by decide +kernel
theorem dX7_revise_84 : decode cX7_revise 84 = .ok (.iload_n 1, 1) := by decide +kernel
theorem dX7_revise_85 : decode cX7_revise 85 = .ok (.imul, 1) := by decide +kernel
theorem dX7_revise_86 : decode cX7_revise 86 = .ok (.iadd, 1) := by decide +kernel
theorem dX7_revise_87 : decode cX7_revise 87 = .ok (.iconst 3, 1) := by decide +kernel
theorem dX7_revise_88 : decode cX7_revise 88 = .ok (.iadd, 1) := by decide +kernel
theorem dX7_revise_89 : decode cX7_revise 89 = .ok (.dup2, 1) := by decide +kernel
theorem dX7_revise_90 : decode cX7_revise 90 = .ok (.iaload, 1) := by decide +kernel
theorem dX7_revise_91 : decode cX7_revise 91 = .ok (.iconst 1, 1) := by decide +kernel
theorem dX7_revise_92 : decode cX7_revise 92 = .ok (.iadd, 1) := by decide +kernel
theorem dX7_revise_93 : decode cX7_revise 93 = .ok (.iastore, 1) := by decide +kernel
theorem dX7_revise_94 : decode cX7_revise 94 = .ok (.iload_n 3, 1) := by decide +kernel
theorem dX7_revise_95 : decode cX7_revise 95 = .ok (.ireturn, 1) := by decide +kernel
theorem dX7_isUsed_0 : decode cX7_isUsed 0 = .ok (.aload_n 0, 1) := by decide +kernel
theorem dX7_isUsed_1 : decode cX7_isUsed 1 = .ok (.getfield 86, 3) := by decide +kernel
theorem dX7_isUsed_4 : decode cX7_isUsed 4 = .ok (.iload_n 1, 1) := by decide +kernel
theorem dX7_isUsed_5 : decode cX7_isUsed 5 = .ok (.ishr, 1) := by decide +kernel
theorem dX7_isUsed_6 : decode cX7_isUsed 6 = .ok (.iconst 1, 1) := by decide +kernel
theorem dX7_isUsed_7 : decode cX7_isUsed 7 = .ok (.iand, 1) := by decide +kernel
theorem dX7_isUsed_8 : decode cX7_isUsed 8 = .ok (.iconst 1, 1) := by decide +kernel
theorem dX7_isUsed_9 : decode cX7_isUsed 9 = .ok (.if_icmp .ne 7, 3) := by decide +kernel
theorem dX7_isUsed_12 : decode cX7_isUsed 12 = .ok (.iconst 1, 1) := by decide +kernel
theorem dX7_isUsed_13 : decode cX7_isUsed 13 = .ok (.goto 4, 3) := by decide +kernel
theorem dX7_isUsed_16 : decode cX7_isUsed 16 = .ok (.iconst 0, 1) := by decide +kernel
theorem dX7_isUsed_17 : decode cX7_isUsed 17 = .ok (.ireturn, 1) := by decide +kernel
theorem dX7_begins_0 : decode cX7_begins 0 = .ok (.iload_n 1, 1) := by decide +kernel
theorem dX7_begins_1 : decode cX7_begins 1 = .ok (.bipush 48, 2) := by decide +kernel
theorem dX7_begins_3 : decode cX7_begins 3 = .ok (.isub, 1) := by decide +kernel
theorem dX7_begins_4 : decode cX7_begins 4 = .ok (.istore_n 2, 1) := by decide +kernel
theorem dX7_begins_5 : decode cX7_begins 5 = .ok (.iload_n 2, 1) := by decide +kernel
theorem dX7_begins_6 : decode cX7_begins 6 = .ok (.iconst 0, 1) := by decide +kernel
theorem dX7_begins_7 : decode cX7_begins 7 = .ok (.bipush 9, 2) := by decide +kernel
theorem dX7_begins_9 : decode cX7_begins 9 = .ok (.invokestatic 44, 3) := by decide +kernel
theorem dX7_begins_12 : decode cX7_begins 12 = .ok (.ifCond .eq 47, 3) := by decide +kernel
theorem dX7_begins_15 : decode cX7_begins 15 = .ok (.iload_n 2, 1) := by decide +kernel
theorem dX7_begins_16 : decode cX7_begins 16 = .ok (.iconst 1, 1) := by decide +kernel
theorem dX7_begins_17 : decode cX7_begins 17 = .ok (.if_icmp .eq 11, 3) := by decide +kernel
theorem dX7_begins_20 : decode cX7_begins 20 = .ok (.aload_n 0, 1) := by decide +kernel
theorem dX7_begins_21 : decode cX7_begins 21 = .ok (.iload_n 2, 1) := by decide +kernel
theorem dX7_begins_22 : decode cX7_begins 22 = .ok (.invokevirtual 89, 3) := by decide +kernel
theorem dX7_begins_25 : decode cX7_begins 25 = .ok (.ifCond .ne 34, 3) := by decide +kernel
theorem dX7_begins_28 : decode cX7_begins 28 = .ok (.iload_n 2, 1) := by decide +kernel
theorem dX7_begins_29 : decode cX7_begins 29 = .ok (.iconst 1, 1) := by decide +kernel
theorem dX7_begins_30 : decode cX7_begins 30 = .ok (.if_icmp .ne 31, 3) := by decide +kernel
theorem dX7_begins_33 : decode cX7_begins 33 = .ok (.aload_n 0, 1) := by decide +kernel
theorem dX7_begins_34 : decode cX7_begins 34 = .ok (.iconst 1, 1) := by decide +kernel
theorem dX7_begins_35 : decode cX7_begins 35 = .ok (.invokevirtual 89, 3) := by decide +kernel
theorem dX7_begins_38 : decode cX7_begins 38 = .ok (.ifCond .eq 23, 3) := by decide +kernel
theorem dX7_begins_41 : decode cX7_begins 41 = .ok (.aload_n 0, 1) := by decide +kernel
theorem dX7_begins_42 : decode cX7_begins 42 = .ok (.bipush 10, 2) := by decide +kernel
theorem dX7_begins_44 : decode cX7_begins 44 = .ok (.invokevirtual 89, 3) := by decide +kernel
theorem dX7_begins_47 : decode cX7_begins 47 = .ok (.ifCond .eq 14, 3) := by decide +kernel
theorem dX7_begins_50 : decode cX7_begins 50 = .ok (.aload_n 0, 1) := by decide +kernel
theorem dX7_begins_51 : decode cX7_begins 51 = .ok (.bipush 11, 2) := by decide +kernel
theorem dX7_begins_53 : decode cX7_begins 53 = .ok (.invokevirtual 89, 3) := by decide +kernel
theorem dX7_begins_56 : decode cX7_begins 56 = .ok (.ifCond .eq 5, 3) := by decide +kernel
theorem dX7_begins_59 : decode cX7_begins 59 = .ok (.iconst 0, 1) := by decide +kernel
theorem dX7_begins_60 : decode cX7_begins 60 = .ok (.ireturn, 1) := by decide +kernel
theorem dX7_begins_61 : decode cX7_begins 61 = .ok (.aload_n 0, 1) := by decide +kernel
theorem dX7_begins_62 : decode cX7_begins 62 = .ok (.iload_n 2, 1) := by decide +kernel
theorem dX7_begins_63 : decode cX7_begins 63 = .ok (.putfield 92, 3) := by decide +kernel
theorem dX7_begins_66 : decode cX7_begins 66 = .ok (.aload_n 0, 1) := by decide +kernel
theorem dX7_begins_67 : decode cX7_begins 67 = .ok (.iconst 1, 1) := by decide +kernel
theorem dX7_begins_68 : decode cX7_begins 68 = .ok (.putfield 95, 3) := by decide +kernel
theorem dX7_begins_71 : decode cX7_begins 71 = .ok (.aload_n 0, 1) := by decide +kernel
theorem dX7_begins_72 : decode cX7_begins 72 = .ok (.iload_n 2, 1) := by decide +kernel
theorem dX7_begins_73 : decode cX7_begins 73 = .ok (.iconst 1, 1) := by decide +kernel
theorem dX7_begins_74 : decode cX7_begins 74 = .ok (.if_icmp .ne 7, 3) := by decide +kernel
theorem dX7_begins_77 : decode cX7_begins 77 = .ok (.iconst 1, 1) := by decide +kernel
theorem dX7_begins_78 : decode cX7_begins 78 = .ok (.goto 4, 3) := by decide +kernel
theorem dX7_begins_81 : decode cX7_begins 81 = .ok (.iconst 2, 1) := by decide +kernel
theorem dX7_begins_82 : decode cX7_begins 82 = .ok (.putfield 98, 3) := by decide +kernel
theorem dX7_begins_85 : decode cX7_begins 85 = .ok (.iconst 1, 1) := by decide +kernel
theorem dX7_begins_86 : decode cX7_begins 86 = .ok (.ireturn, 1) := by decide +kernel
theorem dX7_isOver_0 : decode cX7_isOver 0 = .ok (.aload_n 0, 1) := by decide +kernel
theorem dX7_isOver_1 : decode cX7_isOver 1 = .ok (.getfield 98, 3) := by decide +kernel
theorem dX7_isOver_4 : decode cX7_isOver 4 = .ok (.iconst 2, 1) := by decide +kernel
theorem dX7_isOver_5 : decode cX7_isOver 5 = .ok (.if_icmp .eq 27, 3) := by decide +kernel
theorem dX7_isOver_8 : decode cX7_isOver 8 = .ok (.aload_n 0, 1) := by decide +kernel
theorem dX7_isOver_9 : decode cX7_isOver 9 = .ok (.getfield 98, 3) := by decide +kernel
theorem dX7_isOver_12 : decode cX7_isOver 12 = .ok (.iconst 4, 1) := by decide +kernel
theorem dX7_isOver_13 : decode cX7_isOver 13 = .ok (.if_icmp .eq 19, 3) := by decide +kernel
theorem dX7_isOver_16 : decode cX7_isOver 16 = .ok (.aload_n 0, 1) := by decide +kernel
theorem dX7_isOver_17 : decode cX7_isOver 17 = .ok (.getfield 98, 3) := by decide +kernel
theorem dX7_isOver_20 : decode cX7_isOver 20 = .ok (.iconst 1, 1) := by decide +kernel
theorem dX7_isOver_21 : decode cX7_isOver 21 = .ok (.if_icmp .ne 15, 3) := by decide +kernel
theorem dX7_isOver_24 : decode cX7_isOver 24 = .ok (.aload_n 0, 1) := by decide +kernel
theorem dX7_isOver_25 : decode cX7_isOver 25 = .ok (.iconst 1, 1) := by decide +kernel
theorem dX7_isOver_26 : decode cX7_isOver 26 = .ok (.invokevirtual 89, 3) := by decide +kernel
theorem dX7_isOver_29 : decode cX7_isOver 29 = .ok (.ifCond .ne 7, 3) := by decide +kernel
theorem dX7_isOver_32 : decode cX7_isOver 32 = .ok (.iconst 1, 1) := by decide +kernel
theorem dX7_isOver_33 : decode cX7_isOver 33 = .ok (.goto 4, 3) := by decide +kernel
theorem dX7_isOver_36 : decode cX7_isOver 36 = .ok (.iconst 0, 1) := by decide +kernel
theorem dX7_isOver_37 : decode cX7_isOver 37 = .ok (.ireturn, 1) := by decide +kernel
theorem dX7_ends_0 : decode cX7_ends 0 = .ok (.aload_n 0, 1) := by decide +kernel
theorem dX7_ends_1 : decode cX7_ends 1 = .ok (.getfield 22, 3) := by decide +kernel
theorem dX7_ends_4 : decode cX7_ends 4 = .ok (.aload_n 0, 1) := by decide +kernel
theorem dX7_ends_5 : decode cX7_ends 5 = .ok (.getfield 92, 3) := by decide +kernel
theorem dX7_ends_8 : decode cX7_ends 8 = .ok (.aload_n 0, 1) := by decide +kernel
theorem dX7_ends_9 : decode cX7_ends 9 = .ok (.getfield 95, 3) := by decide +kernel
theorem dX7_ends_12 : decode cX7_ends 12 = .ok (.iastore, 1) := by decide +kernel
theorem dX7_ends_13 : decode cX7_ends 13 = .ok (.aload_n 0, 1) := by decide +kernel
theorem dX7_ends_14 : decode cX7_ends 14 = .ok (.dup, 1) := by decide +kernel
theorem dX7_ends_15 : decode cX7_ends 15 = .ok (.getfield 86, 3) := by decide +kernel
theorem dX7_ends_18 : decode cX7_ends 18 = .ok (.iconst 1, 1) := by decide +kernel
theorem dX7_ends_19 : decode cX7_ends 19 = .ok (.aload_n 0, 1) := by decide +kernel
theorem dX7_ends_20 : decode cX7_ends 20 = .ok (.getfield 92, 3) := by decide +kernel
theorem dX7_ends_23 : decode cX7_ends 23 = .ok (.ishl, 1) := by decide +kernel
theorem dX7_ends_24 : decode cX7_ends 24 = .ok (.ior, 1) := by decide +kernel
theorem dX7_ends_25 : decode cX7_ends 25 = .ok (.putfield 86, 3) := by decide +kernel
theorem dX7_ends_28 : decode cX7_ends 28 = .ok (.aload_n 0, 1) := by decide +kernel
theorem dX7_ends_29 : decode cX7_ends 29 = .ok (.dup, 1) := by decide +kernel
theorem dX7_ends_30 : decode cX7_ends 30 = .ok (.getfield 101, 3) := by decide +kernel
theorem dX7_ends_33 : decode cX7_ends 33 = .ok (.iconst 1, 1) := by decide +kernel
theorem dX7_ends_34 : decode cX7_ends 34 = .ok (.iadd, 1) := by decide +kernel
theorem dX7_ends_35 : decode cX7_ends 35 = .ok (.putfield 101, 3) := by decide +kernel
theorem dX7_ends_38 : decode cX7_ends 38 = .ok (.return_, 1) := by decide +kernel
theorem dX7_goesOn_0 : decode cX7_goesOn 0 = .ok (.aload_n 0, 1) := by decide +kernel
theorem dX7_goesOn_1 : decode cX7_goesOn 1 = .ok (.getfield 98, 3) := by decide +kernel
theorem dX7_goesOn_4 : decode cX7_goesOn 4 = .ok (.iconst 1, 1) := by decide +kernel
theorem dX7_goesOn_5 : decode cX7_goesOn 5 = .ok (.if_icmp .ne 33, 3) := by decide +kernel
theorem dX7_goesOn_8 : decode cX7_goesOn 8 = .ok (.iload_n 1, 1) := by decide +kernel
theorem dX7_goesOn_9 : decode cX7_goesOn 9 = .ok (.bipush 48, 2) := by decide +kernel
theorem dX7_goesOn_11 : decode cX7_goesOn 11 = .ok (.if_icmp .eq 9, 3) := by decide +kernel
theorem dX7_goesOn_14 : decode cX7_goesOn 14 = .ok (.iload_n 1, 1) := by decide +kernel
theorem dX7_goesOn_15 : decode cX7_goesOn 15 = .ok (.bipush 49, 2) := by decide +kernel
theorem dX7_goesOn_17 : decode cX7_goesOn 17 = .ok (.if_icmp .ne 21, 3) := by decide +kernel
theorem dX7_goesOn_20 : decode cX7_goesOn 20 = .ok (.aload_n 0, 1) := by decide +kernel
theorem dX7_goesOn_21 : decode cX7_goesOn 21 = .ok (.bipush 10, 2) := by decide +kernel
theorem dX7_goesOn_23 : decode cX7_goesOn 23 = .ok (.iload_n 1, 1) := by decide +kernel
theorem dX7_goesOn_24 : decode cX7_goesOn 24 = .ok (.iadd, 1) := by decide +kernel
theorem dX7_goesOn_25 : decode cX7_goesOn 25 = .ok (.bipush 48, 2) := by decide +kernel
theorem dX7_goesOn_27 : decode cX7_goesOn 27 = .ok (.isub, 1) := by decide +kernel
theorem dX7_goesOn_28 : decode cX7_goesOn 28 = .ok (.invokevirtual 89, 3) := by decide +kernel
theorem dX7_goesOn_31 : decode cX7_goesOn 31 = .ok (.ifCond .ne 7, 3) := by decide +kernel
theorem dX7_goesOn_34 : decode cX7_goesOn 34 = .ok (.iconst 1, 1) := by decide +kernel
theorem dX7_goesOn_35 : decode cX7_goesOn 35 = .ok (.goto 4, 3) := by decide +kernel
theorem dX7_goesOn_38 : decode cX7_goesOn 38 = .ok (.iconst 0, 1) := by decide +kernel
theorem dX7_goesOn_39 : decode cX7_goesOn 39 = .ok (.istore_n 2, 1) := by decide +kernel
theorem dX7_goesOn_40 : decode cX7_goesOn 40 = .ok (.iload_n 2, 1) := by decide +kernel
theorem dX7_goesOn_41 : decode cX7_goesOn 41 = .ok (.ifCond .eq 21, 3) := by decide +kernel
theorem dX7_goesOn_44 : decode cX7_goesOn 44 = .ok (.aload_n 0, 1) := by decide +kernel
theorem dX7_goesOn_45 : decode cX7_goesOn 45 = .ok (.bipush 10, 2) := by decide +kernel
theorem dX7_goesOn_47 : decode cX7_goesOn 47 = .ok (.iload_n 1, 1) := by decide +kernel
theorem dX7_goesOn_48 : decode cX7_goesOn 48 = .ok (.iadd, 1) := by decide +kernel
theorem dX7_goesOn_49 : decode cX7_goesOn 49 = .ok (.bipush 48, 2) := by decide +kernel
theorem dX7_goesOn_51 : decode cX7_goesOn 51 = .ok (.isub, 1) := by decide +kernel
theorem dX7_goesOn_52 : decode cX7_goesOn 52 = .ok (.putfield 92, 3) := by decide +kernel
theorem dX7_goesOn_55 : decode cX7_goesOn 55 = .ok (.aload_n 0, 1) := by decide +kernel
theorem dX7_goesOn_56 : decode cX7_goesOn 56 = .ok (.iconst 2, 1) := by decide +kernel
theorem dX7_goesOn_57 : decode cX7_goesOn 57 = .ok (.putfield 98, 3) := by decide +kernel
theorem dX7_goesOn_60 : decode cX7_goesOn 60 = .ok (.iconst 1, 1) := by decide +kernel
theorem dX7_goesOn_61 : decode cX7_goesOn 61 = .ok (.ireturn, 1) := by decide +kernel
theorem dX7_goesOn_62 : decode cX7_goesOn 62 = .ok (.iload_n 1, 1) := by decide +kernel
theorem dX7_goesOn_63 : decode cX7_goesOn 63 = .ok (.bipush 42, 2) := by decide +kernel
theorem dX7_goesOn_65 : decode cX7_goesOn 65 = .ok (.if_icmp .ne 25, 3) := by decide +kernel
theorem dX7_goesOn_68 : decode cX7_goesOn 68 = .ok (.aload_n 0, 1) := by decide +kernel
theorem dX7_goesOn_69 : decode cX7_goesOn 69 = .ok (.getfield 98, 3) := by decide +kernel
theorem dX7_goesOn_72 : decode cX7_goesOn 72 = .ok (.iconst 3, 1) := by decide +kernel
theorem dX7_goesOn_73 : decode cX7_goesOn 73 = .ok (.if_icmp .ge 17, 3) := by decide +kernel
theorem dX7_goesOn_76 : decode cX7_goesOn 76 = .ok (.aload_n 0, 1) := by decide +kernel
theorem dX7_goesOn_77 : decode cX7_goesOn 77 = .ok (.invokevirtual 104, 3) := by decide +kernel
theorem dX7_goesOn_80 : decode cX7_goesOn 80 = .ok (.ifCond .eq 10, 3) := by decide +kernel
theorem dX7_goesOn_83 : decode cX7_goesOn 83 = .ok (.aload_n 0, 1) := by decide +kernel
theorem dX7_goesOn_84 : decode cX7_goesOn 84 = .ok (.iconst 3, 1) := by decide +kernel
theorem dX7_goesOn_85 : decode cX7_goesOn 85 = .ok (.putfield 98, 3) := by decide +kernel
theorem dX7_goesOn_88 : decode cX7_goesOn 88 = .ok (.iconst 1, 1) := by decide +kernel
theorem dX7_goesOn_89 : decode cX7_goesOn 89 = .ok (.ireturn, 1) := by decide +kernel
theorem dX7_goesOn_90 : decode cX7_goesOn 90 = .ok (.iload_n 1, 1) := by decide +kernel
theorem dX7_goesOn_91 : decode cX7_goesOn 91 = .ok (.bipush 44, 2) := by decide +kernel
theorem dX7_goesOn_93 : decode cX7_goesOn 93 = .ok (.if_icmp .ne 24, 3) := by decide +kernel
theorem dX7_goesOn_96 : decode cX7_goesOn 96 = .ok (.aload_n 0, 1) := by decide +kernel
theorem dX7_goesOn_97 : decode cX7_goesOn 97 = .ok (.invokevirtual 104, 3) := by decide +kernel
theorem dX7_goesOn_100 : decode cX7_goesOn 100 = .ok (.ifCond .eq 17, 3) := by decide +kernel
theorem dX7_goesOn_103 : decode cX7_goesOn 103 = .ok (.aload_n 0, 1) := by decide +kernel
theorem dX7_goesOn_104 : decode cX7_goesOn 104 = .ok (.getfield 101, 3) := by decide +kernel
theorem dX7_goesOn_107 : decode cX7_goesOn 107 = .ok (.iconst 1, 1) := by decide +kernel
theorem dX7_goesOn_108 : decode cX7_goesOn 108 = .ok (.iadd, 1) := by decide +kernel
theorem dX7_goesOn_109 : decode cX7_goesOn 109 = .ok (.iconst 4, 1) := by decide +kernel
theorem dX7_goesOn_110 : decode cX7_goesOn 110 = .ok (.if_icmp .ge 7, 3) := by decide +kernel
theorem dX7_goesOn_113 : decode cX7_goesOn 113 = .ok (.iconst 1, 1) := by decide +kernel
theorem dX7_goesOn_114 : decode cX7_goesOn 114 = .ok (.goto 4, 3) := by decide +kernel
theorem dX7_goesOn_117 : decode cX7_goesOn 117 = .ok (.iconst 0, 1) := by decide +kernel
theorem dX7_goesOn_118 : decode cX7_goesOn 118 = .ok (.istore_n 3, 1) := by decide +kernel
theorem dX7_goesOn_119 : decode cX7_goesOn 119 = .ok (.iload_n 3, 1) := by decide +kernel
theorem dX7_goesOn_120 : decode cX7_goesOn 120 = .ok (.ifCond .eq 12, 3) := by decide +kernel
theorem dX7_goesOn_123 : decode cX7_goesOn 123 = .ok (.aload_n 0, 1) := by decide +kernel
theorem dX7_goesOn_124 : decode cX7_goesOn 124 = .ok (.invokevirtual 108, 3) := by decide +kernel
theorem dX7_goesOn_127 : decode cX7_goesOn 127 = .ok (.aload_n 0, 1) := by decide +kernel
theorem dX7_goesOn_128 : decode cX7_goesOn 128 = .ok (.iconst 0, 1) := by decide +kernel
theorem dX7_goesOn_129 : decode cX7_goesOn 129 = .ok (.putfield 98, 3) := by decide +kernel
theorem dX7_goesOn_132 : decode cX7_goesOn 132 = .ok (.iload_n 3, 1) := by decide +kernel
theorem dX7_goesOn_133 : decode cX7_goesOn 133 = .ok (.ireturn, 1) := by decide +kernel
theorem dX7_takes_0 : decode cX7_takes 0 = .ok (.aload_n 0, 1) := by decide +kernel
theorem dX7_takes_1 : decode cX7_takes 1 = .ok (.getfield 98, 3) := by decide +kernel
theorem dX7_takes_4 : decode cX7_takes 4 = .ok (.ifCond .ne 9, 3) := by decide +kernel
theorem dX7_takes_7 : decode cX7_takes 7 = .ok (.aload_n 0, 1) := by decide +kernel
theorem dX7_takes_8 : decode cX7_takes 8 = .ok (.iload_n 1, 1) := by decide +kernel
theorem dX7_takes_9 : decode cX7_takes 9 = .ok (.invokevirtual 111, 3) := by decide +kernel
theorem dX7_takes_12 : decode cX7_takes 12 = .ok (.ireturn, 1) := by decide +kernel
theorem dX7_takes_13 : decode cX7_takes 13 = .ok (.aload_n 0, 1) := by decide +kernel
theorem dX7_takes_14 : decode cX7_takes 14 = .ok (.getfield 98, 3) := by decide +kernel
theorem dX7_takes_17 : decode cX7_takes 17 = .ok (.iconst 3, 1) := by decide +kernel
theorem dX7_takes_18 : decode cX7_takes 18 = .ok (.if_icmp .eq 9, 3) := by decide +kernel
theorem dX7_takes_21 : decode cX7_takes 21 = .ok (.aload_n 0, 1) := by decide +kernel
theorem dX7_takes_22 : decode cX7_takes 22 = .ok (.iload_n 1, 1) := by decide +kernel
theorem dX7_takes_23 : decode cX7_takes 23 = .ok (.invokevirtual 114, 3) := by decide +kernel
theorem dX7_takes_26 : decode cX7_takes 26 = .ok (.ireturn, 1) := by decide +kernel
theorem dX7_takes_27 : decode cX7_takes 27 = .ok (.aload_n 0, 1) := by decide +kernel
theorem dX7_takes_28 : decode cX7_takes 28 = .ok (.iload_n 1, 1) := by decide +kernel
theorem dX7_takes_29 : decode cX7_takes 29 = .ok (.bipush 48, 2) := by decide +kernel
theorem dX7_takes_31 : decode cX7_takes 31 = .ok (.isub, 1) := by decide +kernel
theorem dX7_takes_32 : decode cX7_takes 32 = .ok (.putfield 95, 3) := by decide +kernel
theorem dX7_takes_35 : decode cX7_takes 35 = .ok (.aload_n 0, 1) := by decide +kernel
theorem dX7_takes_36 : decode cX7_takes 36 = .ok (.iconst 4, 1) := by decide +kernel
theorem dX7_takes_37 : decode cX7_takes 37 = .ok (.putfield 98, 3) := by decide +kernel
theorem dX7_takes_40 : decode cX7_takes 40 = .ok (.aload_n 0, 1) := by decide +kernel
theorem dX7_takes_41 : decode cX7_takes 41 = .ok (.getfield 95, 3) := by decide +kernel
theorem dX7_takes_44 : decode cX7_takes 44 = .ok (.iconst 2, 1) := by decide +kernel
theorem dX7_takes_45 : decode cX7_takes 45 = .ok (.bipush 9, 2) := by decide +kernel
theorem dX7_takes_47 : decode cX7_takes 47 = .ok (.invokestatic 44, 3) := by decide +kernel
theorem dX7_takes_50 : decode cX7_takes 50 = .ok (.ireturn, 1) := by decide +kernel
theorem dX7_read_0 : decode cX7_read 0 = .ok (.aload_n 0, 1) := by decide +kernel
theorem dX7_read_1 : decode cX7_read 1 = .ok (.iconst 0, 1) := by decide +kernel
theorem dX7_read_2 : decode cX7_read 2 = .ok (.putfield 98, 3) := by decide +kernel
theorem dX7_read_5 : decode cX7_read 5 = .ok (.aload_n 0, 1) := by decide +kernel
theorem dX7_read_6 : decode cX7_read 6 = .ok (.iconst 0, 1) := by decide +kernel
theorem dX7_read_7 : decode cX7_read 7 = .ok (.putfield 101, 3) := by decide +kernel
theorem dX7_read_10 : decode cX7_read 10 = .ok (.aload_n 0, 1) := by decide +kernel
theorem dX7_read_11 : decode cX7_read 11 = .ok (.iconst 0, 1) := by decide +kernel
theorem dX7_read_12 : decode cX7_read 12 = .ok (.putfield 86, 3) := by decide +kernel
theorem dX7_read_15 : decode cX7_read 15 = .ok (.iconst 0, 1) := by decide +kernel
theorem dX7_read_16 : decode cX7_read 16 = .ok (.istore_n 1, 1) := by decide +kernel
theorem dX7_read_17 : decode cX7_read 17 = .ok (.iload_n 1, 1) := by decide +kernel
theorem dX7_read_18 : decode cX7_read 18 = .ok (.bipush 12, 2) := by decide +kernel
theorem dX7_read_20 : decode cX7_read 20 = .ok (.if_icmp .ge 16, 3) := by decide +kernel
theorem dX7_read_23 : decode cX7_read 23 = .ok (.aload_n 0, 1) := by decide +kernel
theorem dX7_read_24 : decode cX7_read 24 = .ok (.getfield 22, 3) := by decide +kernel
theorem dX7_read_27 : decode cX7_read 27 = .ok (.iload_n 1, 1) := by decide +kernel
theorem dX7_read_28 : decode cX7_read 28 = .ok (.iconst 0, 1) := by decide +kernel
theorem dX7_read_29 : decode cX7_read 29 = .ok (.iastore, 1) := by decide +kernel
theorem dX7_read_30 : decode cX7_read 30 = .ok (.iinc 1 1, 3) := by decide +kernel
theorem dX7_read_33 : decode cX7_read 33 = .ok (.goto (-16), 3) := by decide +kernel
theorem dX7_read_36 : decode cX7_read 36 = .ok (.iconst 0, 1) := by decide +kernel
theorem dX7_read_37 : decode cX7_read 37 = .ok (.istore_n 1, 1) := by decide +kernel
theorem dX7_read_38 : decode cX7_read 38 = .ok (.iload_n 1, 1) := by decide +kernel
theorem dX7_read_39 : decode cX7_read 39 = .ok (.aload_n 0, 1) := by decide +kernel
theorem dX7_read_40 : decode cX7_read 40 = .ok (.getfield 117, 3) := by decide +kernel
theorem dX7_read_43 : decode cX7_read 43 = .ok (.if_icmp .ge 29, 3) := by decide +kernel
theorem dX7_read_46 : decode cX7_read 46 = .ok (.aload_n 0, 1) := by decide +kernel
theorem dX7_read_47 : decode cX7_read 47 = .ok (.aload_n 0, 1) := by decide +kernel
theorem dX7_read_48 : decode cX7_read 48 = .ok (.getfield 19, 3) := by decide +kernel
theorem dX7_read_51 : decode cX7_read 51 = .ok (.iload_n 1, 1) := by decide +kernel
theorem dX7_read_52 : decode cX7_read 52 = .ok (.iaload, 1) := by decide +kernel
theorem dX7_read_53 : decode cX7_read 53 = .ok (.invokevirtual 120, 3) := by decide +kernel
theorem dX7_read_56 : decode cX7_read 56 = .ok (.ifCond .ne 10, 3) := by decide +kernel
theorem dX7_read_59 : decode cX7_read 59 = .ok (.aload_n 0, 1) := by decide +kernel
theorem dX7_read_60 : decode cX7_read 60 = .ok (.iconst 0, 1) := by decide +kernel
theorem dX7_read_61 : decode cX7_read 61 = .ok (.putfield 98, 3) := by decide +kernel
theorem dX7_read_64 : decode cX7_read 64 = .ok (.iload_n 1, 1) := by decide +kernel
theorem dX7_read_65 : decode cX7_read 65 = .ok (.ireturn, 1) := by decide +kernel
theorem dX7_read_66 : decode cX7_read 66 = .ok (.iinc 1 1, 3) := by decide +kernel
theorem dX7_read_69 : decode cX7_read 69 = .ok (.goto (-31), 3) := by decide +kernel
theorem dX7_read_72 : decode cX7_read 72 = .ok (.aload_n 0, 1) := by decide +kernel
theorem dX7_read_73 : decode cX7_read 73 = .ok (.getfield 117, 3) := by decide +kernel
theorem dX7_read_76 : decode cX7_read 76 = .ok (.ireturn, 1) := by decide +kernel
theorem dX7_isList_0 : decode cX7_isList 0 = .ok (.aload_n 0, 1) := by decide +kernel
theorem dX7_isList_1 : decode cX7_isList 1 = .ok (.invokevirtual 123, 3) := by decide +kernel
theorem dX7_isList_4 : decode cX7_isList 4 = .ok (.aload_n 0, 1) := by decide +kernel
theorem dX7_isList_5 : decode cX7_isList 5 = .ok (.getfield 117, 3) := by decide +kernel
theorem dX7_isList_8 : decode cX7_isList 8 = .ok (.if_icmp .ne 14, 3) := by decide +kernel
theorem dX7_isList_11 : decode cX7_isList 11 = .ok (.aload_n 0, 1) := by decide +kernel
theorem dX7_isList_12 : decode cX7_isList 12 = .ok (.invokevirtual 104, 3) := by decide +kernel
theorem dX7_isList_15 : decode cX7_isList 15 = .ok (.ifCond .eq 7, 3) := by decide +kernel
theorem dX7_isList_18 : decode cX7_isList 18 = .ok (.iconst 1, 1) := by decide +kernel
theorem dX7_isList_19 : decode cX7_isList 19 = .ok (.goto 4, 3) := by decide +kernel
theorem dX7_isList_22 : decode cX7_isList 22 = .ok (.iconst 0, 1) := by decide +kernel
theorem dX7_isList_23 : decode cX7_isList 23 = .ok (.istore_n 1, 1) := by decide +kernel
theorem dX7_isList_24 : decode cX7_isList 24 = .ok (.iload_n 1, 1) := by decide +kernel
theorem dX7_isList_25 : decode cX7_isList 25 = .ok (.ifCond .eq 7, 3) := by decide +kernel
theorem dX7_isList_28 : decode cX7_isList 28 = .ok (.aload_n 0, 1) := by decide +kernel
theorem dX7_isList_29 : decode cX7_isList 29 = .ok (.invokevirtual 108, 3) := by decide +kernel
theorem dX7_isList_32 : decode cX7_isList 32 = .ok (.iload_n 1, 1) := by decide +kernel
theorem dX7_isList_33 : decode cX7_isList 33 = .ok (.ireturn, 1) := by decide +kernel
theorem dX7_areThere_0 : decode cX7_areThere 0 = .ok (.iconst 1, 1) := by decide +kernel
theorem dX7_areThere_1 : decode cX7_areThere 1 = .ok (.istore_n 1, 1) := by decide +kernel
theorem dX7_areThere_2 : decode cX7_areThere 2 = .ok (.aload_n 0, 1) := by decide +kernel
theorem dX7_areThere_3 : decode cX7_areThere 3 = .ok (.getfield 7, 3) := by decide +kernel
theorem dX7_areThere_6 : decode cX7_areThere 6 = .ok (.iconst 0, 1) := by decide +kernel
theorem dX7_areThere_7 : decode cX7_areThere 7 = .ok (.iaload, 1) := by decide +kernel
theorem dX7_areThere_8 : decode cX7_areThere 8 = .ok (.istore_n 2, 1) := by decide +kernel
theorem dX7_areThere_9 : decode cX7_areThere 9 = .ok (.iload_n 2, 1) := by decide +kernel
theorem dX7_areThere_10 : decode cX7_areThere 10 = .ok (.bipush 12, 2) := by decide +kernel
theorem dX7_areThere_12 : decode cX7_areThere 12 = .ok (.if_icmp .ge 28, 3) := by decide +kernel
theorem dX7_areThere_15 : decode cX7_areThere 15 = .ok (.iload_n 1, 1) := by decide +kernel
theorem dX7_areThere_16 : decode cX7_areThere 16 = .ok (.ifCond .eq 16, 3) := by decide +kernel
theorem dX7_areThere_19 : decode cX7_areThere 19 = .ok (.aload_n 0, 1) := by decide +kernel
theorem dX7_areThere_20 : decode cX7_areThere 20 = .ok (.getfield 22, 3) := by decide +kernel
theorem dX7_areThere_23 : decode cX7_areThere 23 = .ok (.iload_n 2, 1) := by decide +kernel
theorem dX7_areThere_24 : decode cX7_areThere 24 = .ok (.iaload, 1) := by decide +kernel
theorem dX7_areThere_25 : decode cX7_areThere 25 = .ok (.ifCond .ne 7, 3) := by decide +kernel
theorem dX7_areThere_28 : decode cX7_areThere 28 = .ok (.iconst 1, 1) := by decide +kernel
theorem dX7_areThere_29 : decode cX7_areThere 29 = .ok (.goto 4, 3) := by decide +kernel
theorem dX7_areThere_32 : decode cX7_areThere 32 = .ok (.iconst 0, 1) := by decide +kernel
theorem dX7_areThere_33 : decode cX7_areThere 33 = .ok (.istore_n 1, 1) := by decide +kernel
theorem dX7_areThere_34 : decode cX7_areThere 34 = .ok (.iinc 2 1, 3) := by decide +kernel
theorem dX7_areThere_37 : decode cX7_areThere 37 = .ok (.goto (-28), 3) := by decide +kernel
theorem dX7_areThere_40 : decode cX7_areThere 40 = .ok (.iload_n 1, 1) := by decide +kernel
theorem dX7_areThere_41 : decode cX7_areThere 41 = .ok (.ireturn, 1) := by decide +kernel
theorem dX7_share_0 : decode cX7_share 0 = .ok (.aload_n 0, 1) := by decide +kernel
theorem dX7_share_1 : decode cX7_share 1 = .ok (.iconst 0, 1) := by decide +kernel
theorem dX7_share_2 : decode cX7_share 2 = .ok (.putfield 40, 3) := by decide +kernel
theorem dX7_share_5 : decode cX7_share 5 = .ok (.aload_n 0, 1) := by decide +kernel
theorem dX7_share_6 : decode cX7_share 6 = .ok (.iload_n 1, 1) := by decide +kernel
theorem dX7_share_7 : decode cX7_share 7 = .ok (.invokevirtual 77, 3) := by decide +kernel
theorem dX7_share_10 : decode cX7_share 10 = .ok (.ifCond .ne 9, 3) := by decide +kernel
theorem dX7_share_13 : decode cX7_share 13 = .ok (.aload_n 0, 1) := by decide +kernel
theorem dX7_share_14 : decode cX7_share 14 = .ok (.iconst 1, 1) := by decide +kernel
theorem dX7_share_15 : decode cX7_share 15 = .ok (.invokevirtual 55, 3) := by decide +kernel
theorem dX7_share_18 : decode cX7_share 18 = .ok (.ireturn, 1) := by decide +kernel
theorem dX7_share_19 : decode cX7_share 19 = .ok (.aload_n 0, 1) := by decide +kernel
theorem dX7_share_20 : decode cX7_share 20 = .ok (.invokevirtual 127, 3) := by decide +kernel
theorem dX7_share_23 : decode cX7_share 23 = .ok (.ifCond .eq 10, 3) := by decide +kernel
theorem dX7_share_26 : decode cX7_share 26 = .ok (.aload_n 0, 1) := by decide +kernel
theorem dX7_share_27 : decode cX7_share 27 = .ok (.invokevirtual 130, 3) := by decide +kernel
theorem dX7_share_30 : decode cX7_share 30 = .ok (.ifCond .ne 9, 3) := by decide +kernel
theorem dX7_share_33 : decode cX7_share 33 = .ok (.aload_n 0, 1) := by decide +kernel
theorem dX7_share_34 : decode cX7_share 34 = .ok (.iconst 2, 1) := by decide +kernel
theorem dX7_share_35 : decode cX7_share 35 = .ok (.invokevirtual 55, 3) := by decide +kernel
theorem dX7_share_38 : decode cX7_share 38 = .ok (.ireturn, 1) := by decide +kernel
theorem dX7_share_39 : decode cX7_share 39 = .ok (.aload_n 0, 1) := by decide +kernel
theorem dX7_share_40 : decode cX7_share 40 = .ok (.iload_n 1, 1) := by decide +kernel
theorem dX7_share_41 : decode cX7_share 41 = .ok (.iconst 2, 1) := by decide +kernel
theorem dX7_share_42 : decode cX7_share 42 = .ok (.invokevirtual 80, 3) := by decide +kernel
theorem dX7_share_45 : decode cX7_share 45 = .ok (.iconst 4, 1) := by decide +kernel
theorem dX7_share_46 : decode cX7_share 46 = .ok (.if_icmp .ne 9, 3) := by decide +kernel
theorem dX7_share_49 : decode cX7_share 49 = .ok (.aload_n 0, 1) := by decide +kernel
theorem dX7_share_50 : decode cX7_share 50 = .ok (.iconst 3, 1) := by decide +kernel
theorem dX7_share_51 : decode cX7_share 51 = .ok (.invokevirtual 55, 3) := by decide +kernel
theorem dX7_share_54 : decode cX7_share 54 = .ok (.ireturn, 1) := by decide +kernel
theorem dX7_share_55 : decode cX7_share 55 = .ok (.aload_n 0, 1) := by decide +kernel
theorem dX7_share_56 : decode cX7_share 56 = .ok (.invokevirtual 58, 3) := by decide +kernel
theorem dX7_share_59 : decode cX7_share 59 = .ok (.iconst 0, 1) := by decide +kernel
theorem dX7_share_60 : decode cX7_share 60 = .ok (.istore_n 2, 1) := by decide +kernel
theorem dX7_share_61 : decode cX7_share 61 = .ok (.iload_n 2, 1) := by decide +kernel
theorem dX7_share_62 : decode cX7_share 62 = .ok (.bipush 12, 2) := by decide +kernel
theorem dX7_share_64 : decode cX7_share 64 = .ok (.if_icmp .ge 30, 3) := by decide +kernel
theorem dX7_share_67 : decode cX7_share 67 = .ok (.aload_n 0, 1) := by decide +kernel
theorem dX7_share_68 : decode cX7_share 68 = .ok (.getfield 7, 3) := by decide +kernel
theorem dX7_share_71 : decode cX7_share 71 = .ok (.sipush 426, 3) := by decide +kernel
theorem dX7_share_74 : decode cX7_share 74 = .ok (.bipush 12, 2) := by decide +kernel
theorem dX7_share_76 : decode cX7_share 76 = .ok (.iload_n 1, 1) := by decide +kernel
theorem dX7_share_77 : decode cX7_share 77 = .ok (.imul, 1) := by decide +kernel
theorem dX7_share_78 : decode cX7_share 78 = .ok (.iadd, 1) := by decide +kernel
theorem dX7_share_79 : decode cX7_share 79 = .ok (.iload_n 2, 1) := by decide +kernel
theorem dX7_share_80 : decode cX7_share 80 = .ok (.iadd, 1) := by decide +kernel
theorem dX7_share_81 : decode cX7_share 81 = .ok (.aload_n 0, 1) := by decide +kernel
theorem dX7_share_82 : decode cX7_share 82 = .ok (.getfield 22, 3) := by decide +kernel
theorem dX7_share_85 : decode cX7_share 85 = .ok (.iload_n 2, 1) := by decide +kernel
theorem dX7_share_86 : decode cX7_share 86 = .ok (.iaload, 1) := by decide +kernel
theorem dX7_share_87 : decode cX7_share 87 = .ok (.iastore, 1) := by decide +kernel
theorem dX7_share_88 : decode cX7_share 88 = .ok (.iinc 2 1, 3) := by decide +kernel
theorem dX7_share_91 : decode cX7_share 91 = .ok (.goto (-30), 3) := by decide +kernel
theorem dX7_share_94 : decode cX7_share 94 = .ok (.aload_n 0, 1) := by decide +kernel
theorem dX7_share_95 : decode cX7_share 95 = .ok (.getfield 7, 3) := by decide +kernel
theorem dX7_share_98 : decode cX7_share 98 = .ok (.bipush 86, 2) := by decide +kernel
theorem dX7_share_100 : decode cX7_share 100 = .ok (.iconst 5, 1) := by decide +kernel
theorem dX7_share_101 : decode cX7_share 101 = .ok (.iload_n 1, 1) := by decide +kernel
theorem dX7_share_102 : decode cX7_share 102 = .ok (.imul, 1) := by decide +kernel
theorem dX7_share_103 : decode cX7_share 103 = .ok (.iadd, 1) := by decide +kernel
theorem dX7_share_104 : decode cX7_share 104 = .ok (.iconst 3, 1) := by decide +kernel
theorem dX7_share_105 : decode cX7_share 105 = .ok (.iadd, 1) := by decide +kernel
theorem dX7_share_106 : decode cX7_share 106 = .ok (.dup2, 1) := by decide +kernel
theorem dX7_share_107 : decode cX7_share 107 = .ok (.iaload, 1) := by decide +kernel
theorem dX7_share_108 : decode cX7_share 108 = .ok (.iconst 1, 1) := by decide +kernel
theorem dX7_share_109 : decode cX7_share 109 = .ok (.iadd, 1) := by decide +kernel
theorem dX7_share_110 : decode cX7_share 110 = .ok (.iastore, 1) := by decide +kernel
theorem dX7_share_111 : decode cX7_share 111 = .ok (.aload_n 0, 1) := by decide +kernel
theorem dX7_share_112 : decode cX7_share 112 = .ok (.iconst 0, 1) := by decide +kernel
theorem dX7_share_113 : decode cX7_share 113 = .ok (.putfield 117, 3) := by decide +kernel
theorem dX7_share_116 : decode cX7_share 116 = .ok (.aload_n 0, 1) := by decide +kernel
theorem dX7_share_117 : decode cX7_share 117 = .ok (.iload_n 1, 1) := by decide +kernel
theorem dX7_share_118 : decode cX7_share 118 = .ok (.invokevirtual 133, 3) := by decide +kernel
theorem dX7_share_121 : decode cX7_share 121 = .ok (.ireturn, 1) := by decide +kernel
theorem dX7_reserves_0 : decode cX7_reserves 0 = .ok (.aload_n 0, 1) := by decide +kernel
theorem dX7_reserves_1 : decode cX7_reserves 1 = .ok (.getfield 7, 3) := by decide +kernel
theorem dX7_reserves_4 : decode cX7_reserves 4 = .ok (.iconst 3, 1) := by decide +kernel
theorem dX7_reserves_5 : decode cX7_reserves 5 = .ok (.dup2, 1) := by decide +kernel
theorem dX7_reserves_6 : decode cX7_reserves 6 = .ok (.iaload, 1) := by decide +kernel
theorem dX7_reserves_7 : decode cX7_reserves 7 = .ok (.iload_n 1, 1) := by decide +kernel
theorem dX7_reserves_8 : decode cX7_reserves 8 = .ok (.iadd, 1) := by decide +kernel
theorem dX7_reserves_9 : decode cX7_reserves 9 = .ok (.iastore, 1) := by decide +kernel
theorem dX7_reserves_10 : decode cX7_reserves 10 = .ok (.aload_n 0, 1) := by decide +kernel
theorem dX7_reserves_11 : decode cX7_reserves 11 = .ok (.dup, 1) := by decide +kernel
theorem dX7_reserves_12 : decode cX7_reserves 12 = .ok (.getfield 136, 3) := by decide +kernel
theorem dX7_reserves_15 : decode cX7_reserves 15 = .ok (.iload_n 1, 1) := by decide +kernel
theorem dX7_reserves_16 : decode cX7_reserves 16 = .ok (.iadd, 1) := by decide +kernel
theorem dX7_reserves_17 : decode cX7_reserves 17 = .ok (.putfield 136, 3) := by decide +kernel
theorem dX7_reserves_20 : decode cX7_reserves 20 = .ok (.return_, 1) := by decide +kernel
theorem dX7_income_0 : decode cX7_income 0 = .ok (.iload_n 2, 1) := by decide +kernel
theorem dX7_income_1 : decode cX7_income 1 = .ok (.iconst 1, 1) := by decide +kernel
theorem dX7_income_2 : decode cX7_income 2 = .ok (.iadd, 1) := by decide +kernel
theorem dX7_income_3 : decode cX7_income 3 = .ok (.iconst 2, 1) := by decide +kernel
theorem dX7_income_4 : decode cX7_income 4 = .ok (.idiv, 1) := by decide +kernel
theorem dX7_income_5 : decode cX7_income 5 = .ok (.istore_n 3, 1) := by decide +kernel
theorem dX7_income_6 : decode cX7_income 6 = .ok (.iload_n 3, 1) := by decide +kernel
theorem dX7_income_7 : decode cX7_income 7 = .ok (.aload_n 0, 1) := by decide +kernel
theorem dX7_income_8 : decode cX7_income 8 = .ok (.iload_n 1, 1) := by decide +kernel
theorem dX7_income_9 : decode cX7_income 9 = .ok (.iconst 1, 1) := by decide +kernel
theorem dX7_income_10 : decode cX7_income 10 = .ok (.invokevirtual 61, 3) := by decide +kernel
theorem dX7_income_13 : decode cX7_income 13 = .ok (.if_icmp .ge 7, 3) := by decide +kernel
theorem dX7_income_16 : decode cX7_income 16 = .ok (.iload_n 3, 1) := by decide +kernel
theorem dX7_income_17 : decode cX7_income 17 = .ok (.goto 9, 3) := by decide +kernel
theorem dX7_income_20 : decode cX7_income 20 = .ok (.aload_n 0, 1) := by decide +kernel
theorem dX7_income_21 : decode cX7_income 21 = .ok (.iload_n 1, 1) := by decide +kernel
theorem dX7_income_22 : decode cX7_income 22 = .ok (.iconst 1, 1) := by decide +kernel
theorem dX7_income_23 : decode cX7_income 23 = .ok (.invokevirtual 61, 3) := by decide +kernel
theorem dX7_income_26 : decode cX7_income 26 = .ok (.istore 4, 2) := by decide +kernel
theorem dX7_income_28 : decode cX7_income 28 = .ok (.aload_n 0, 1) := by decide +kernel
theorem dX7_income_29 : decode cX7_income 29 = .ok (.getfield 7, 3) := by decide +kernel
theorem dX7_income_32 : decode cX7_income 32 = .ok (.bipush 14, 2) := by decide +kernel
theorem dX7_income_34 : decode cX7_income 34 = .ok (.bipush 6, 2) := by decide +kernel
theorem dX7_income_36 : decode cX7_income 36 = .ok (.iload_n 1, 1) := by decide +kernel
theorem dX7_income_37 : decode cX7_income 37 = .ok (.imul, 1) := by decide +kernel
theorem dX7_income_38 : decode cX7_income 38 = .ok (.iadd, 1) := by decide +kernel
theorem dX7_income_39 : decode cX7_income 39 = .ok (.iconst 1, 1) := by decide +kernel
theorem dX7_income_40 : decode cX7_income 40 = .ok (.iadd, 1) := by decide +kernel
theorem dX7_income_41 : decode cX7_income 41 = .ok (.dup2, 1) := by decide +kernel
theorem dX7_income_42 : decode cX7_income 42 = .ok (.iaload, 1) := by decide +kernel
theorem dX7_income_43 : decode cX7_income 43 = .ok (.iload 4, 2) := by decide +kernel
theorem dX7_income_45 : decode cX7_income 45 = .ok (.isub, 1) := by decide +kernel
theorem dX7_income_46 : decode cX7_income 46 = .ok (.iastore, 1) := by decide +kernel
theorem dX7_income_47 : decode cX7_income 47 = .ok (.aload_n 0, 1) := by decide +kernel
theorem dX7_income_48 : decode cX7_income 48 = .ok (.getfield 7, 3) := by decide +kernel
theorem dX7_income_51 : decode cX7_income 51 = .ok (.bipush 14, 2) := by decide +kernel
theorem dX7_income_53 : decode cX7_income 53 = .ok (.bipush 6, 2) := by decide +kernel
theorem dX7_income_55 : decode cX7_income 55 = .ok (.iload_n 1, 1) := by decide +kernel
theorem dX7_income_56 : decode cX7_income 56 = .ok (.imul, 1) := by decide +kernel
theorem dX7_income_57 : decode cX7_income 57 = .ok (.iadd, 1) := by decide +kernel
theorem dX7_income_58 : decode cX7_income 58 = .ok (.iconst 2, 1) := by decide +kernel
theorem dX7_income_59 : decode cX7_income 59 = .ok (.iadd, 1) := by decide +kernel
theorem dX7_income_60 : decode cX7_income 60 = .ok (.dup2, 1) := by decide +kernel
theorem dX7_income_61 : decode cX7_income 61 = .ok (.iaload, 1) := by decide +kernel
theorem dX7_income_62 : decode cX7_income 62 = .ok (.iload_n 2, 1) := by decide +kernel
theorem dX7_income_63 : decode cX7_income 63 = .ok (.iadd, 1) := by decide +kernel
theorem dX7_income_64 : decode cX7_income 64 = .ok (.iastore, 1) := by decide +kernel
theorem dX7_income_65 : decode cX7_income 65 = .ok (.aload_n 0, 1) := by decide +kernel
theorem dX7_income_66 : decode cX7_income 66 = .ok (.getfield 7, 3) := by decide +kernel
theorem dX7_income_69 : decode cX7_income 69 = .ok (.bipush 14, 2) := by decide +kernel
theorem dX7_income_71 : decode cX7_income 71 = .ok (.bipush 6, 2) := by decide +kernel
theorem dX7_income_73 : decode cX7_income 73 = .ok (.iload_n 1, 1) := by decide +kernel
theorem dX7_income_74 : decode cX7_income 74 = .ok (.imul, 1) := by decide +kernel
theorem dX7_income_75 : decode cX7_income 75 = .ok (.iadd, 1) := by decide +kernel
theorem dX7_income_76 : decode cX7_income 76 = .ok (.dup2, 1) := by decide +kernel
theorem dX7_income_77 : decode cX7_income 77 = .ok (.iaload, 1) := by decide +kernel
theorem dX7_income_78 : decode cX7_income 78 = .ok (.iload_n 2, 1) := by decide +kernel
theorem dX7_income_79 : decode cX7_income 79 = .ok (.iload 4, 2) := by decide +kernel
theorem dX7_income_81 : decode cX7_income 81 = .ok (.isub, 1) := by decide +kernel
theorem dX7_income_82 : decode cX7_income 82 = .ok (.iadd, 1) := by decide +kernel
theorem dX7_income_83 : decode cX7_income 83 = .ok (.iastore, 1) := by decide +kernel
theorem dX7_income_84 : decode cX7_income 84 = .ok (.aload_n 0, 1) := by decide +kernel
theorem dX7_income_85 : decode cX7_income 85 = .ok (.iload 4, 2) := by decide +kernel
theorem dX7_income_87 : decode cX7_income 87 = .ok (.invokevirtual 139, 3) := by decide +kernel
theorem dX7_income_90 : decode cX7_income 90 = .ok (.return_, 1) := by decide +kernel
theorem dX7_split_0 : decode cX7_split 0 = .ok (.aload_n 0, 1) := by decide +kernel
theorem dX7_split_1 : decode cX7_split 1 = .ok (.iload_n 1, 1) := by decide +kernel
theorem dX7_split_2 : decode cX7_split 2 = .ok (.invokevirtual 133, 3) := by decide +kernel
theorem dX7_split_5 : decode cX7_split 5 = .ok (.istore_n 3, 1) := by decide +kernel
theorem dX7_split_6 : decode cX7_split 6 = .ok (.iload_n 2, 1) := by decide +kernel
theorem dX7_split_7 : decode cX7_split 7 = .ok (.istore 4, 2) := by decide +kernel
theorem dX7_split_9 : decode cX7_split 9 = .ok (.iconst 0, 1) := by decide +kernel
theorem dX7_split_10 : decode cX7_split 10 = .ok (.istore 5, 2) := by decide +kernel
theorem dX7_split_12 : decode cX7_split 12 = .ok (.iload 5, 2) := by decide +kernel
theorem dX7_split_14 : decode cX7_split 14 = .ok (.bipush 12, 2) := by decide +kernel
theorem dX7_split_16 : decode cX7_split 16 = .ok (.if_icmp .ge 71, 3) := by decide +kernel
theorem dX7_split_19 : decode cX7_split 19 = .ok (.aload_n 0, 1) := by decide +kernel
theorem dX7_split_20 : decode cX7_split 20 = .ok (.getfield 25, 3) := by decide +kernel
theorem dX7_split_23 : decode cX7_split 23 = .ok (.iload 5, 2) := by decide +kernel
theorem dX7_split_25 : decode cX7_split 25 = .ok (.iload_n 2, 1) := by decide +kernel
theorem dX7_split_26 : decode cX7_split 26 = .ok (.aload_n 0, 1) := by decide +kernel
theorem dX7_split_27 : decode cX7_split 27 = .ok (.iload_n 1, 1) := by decide +kernel
theorem dX7_split_28 : decode cX7_split 28 = .ok (.iload 5, 2) := by decide +kernel
theorem dX7_split_30 : decode cX7_split 30 = .ok (.invokevirtual 143, 3) := by decide +kernel
theorem dX7_split_33 : decode cX7_split 33 = .ok (.imul, 1) := by decide +kernel
theorem dX7_split_34 : decode cX7_split 34 = .ok (.iload_n 3, 1) := by decide +kernel
theorem dX7_split_35 : decode cX7_split 35 = .ok (.idiv, 1) := by decide +kernel
theorem dX7_split_36 : decode cX7_split 36 = .ok (.iastore, 1) := by decide +kernel
theorem dX7_split_37 : decode cX7_split 37 = .ok (.aload_n 0, 1) := by decide +kernel
theorem dX7_split_38 : decode cX7_split 38 = .ok (.getfield 28, 3) := by decide +kernel
theorem dX7_split_41 : decode cX7_split 41 = .ok (.iload 5, 2) := by decide +kernel
theorem dX7_split_43 : decode cX7_split 43 = .ok (.aload_n 0, 1) := by decide +kernel
theorem dX7_split_44 : decode cX7_split 44 = .ok (.iload_n 1, 1) := by decide +kernel
theorem dX7_split_45 : decode cX7_split 45 = .ok (.iload 5, 2) := by decide +kernel
theorem dX7_split_47 : decode cX7_split 47 = .ok (.invokevirtual 143, 3) := by decide +kernel
theorem dX7_split_50 : decode cX7_split 50 = .ok (.ifCond .ne 7, 3) := by decide +kernel
theorem dX7_split_53 : decode cX7_split 53 = .ok (.iconst (-1), 1) := by decide +kernel
theorem dX7_split_54 : decode cX7_split 54 = .ok (.goto 14, 3) := by decide +kernel
theorem dX7_split_57 : decode cX7_split 57 = .ok (.iload_n 2, 1) := by decide +kernel
theorem dX7_split_58 : decode cX7_split 58 = .ok (.aload_n 0, 1) := by decide +kernel
theorem dX7_split_59 : decode cX7_split 59 = .ok (.iload_n 1, 1) := by decide +kernel
theorem dX7_split_60 : decode cX7_split 60 = .ok (.iload 5, 2) := by decide +kernel
theorem dX7_split_62 : decode cX7_split 62 = .ok (.invokevirtual 143, 3) := by decide +kernel
theorem dX7_split_65 : decode cX7_split 65 = .ok (.imul, 1) := by decide +kernel
theorem dX7_split_66 : decode cX7_split 66 = .ok (.iload_n 3, 1) := by decide +kernel
theorem dX7_split_67 : decode cX7_split 67 = .ok (.irem, 1) := by decide +kernel
theorem dX7_split_68 : decode cX7_split 68 = .ok (.iastore, 1) := by decide +kernel
theorem dX7_split_69 : decode cX7_split 69 = .ok (.iload 4, 2) := by decide +kernel
theorem dX7_split_71 : decode cX7_split 71 = .ok (.aload_n 0, 1) := by decide +kernel
theorem dX7_split_72 : decode cX7_split 72 = .ok (.getfield 25, 3) := by decide +kernel
theorem dX7_split_75 : decode cX7_split 75 = .ok (.iload 5, 2) := by decide +kernel
theorem dX7_split_77 : decode cX7_split 77 = .ok (.iaload, 1) := by decide +kernel
theorem dX7_split_78 : decode cX7_split 78 = .ok (.isub, 1) := by decide +kernel
theorem dX7_split_79 : decode cX7_split 79 = .ok (.istore 4, 2) := by decide +kernel
theorem dX7_split_81 : decode cX7_split 81 = .ok (.iinc 5 1, 3) := by decide +kernel
theorem dX7_split_84 : decode cX7_split 84 = .ok (.goto (-72), 3) := by decide +kernel
theorem dX7_split_87 : decode cX7_split 87 = .ok (.iload 4, 2) := by decide +kernel
theorem dX7_split_89 : decode cX7_split 89 = .ok (.ifCond .le 73, 3) := by decide +kernel
theorem dX7_split_92 : decode cX7_split 92 = .ok (.iconst 0, 1) := by decide +kernel
theorem dX7_split_93 : decode cX7_split 93 = .ok (.istore 5, 2) := by decide +kernel
theorem dX7_split_95 : decode cX7_split 95 = .ok (.iconst 1, 1) := by decide +kernel
theorem dX7_split_96 : decode cX7_split 96 = .ok (.istore 6, 2) := by decide +kernel
theorem dX7_split_98 : decode cX7_split 98 = .ok (.iload 6, 2) := by decide +kernel
theorem dX7_split_100 : decode cX7_split 100 = .ok (.bipush 12, 2) := by decide +kernel
theorem dX7_split_102 : decode cX7_split 102 = .ok (.if_icmp .ge 35, 3) := by decide +kernel
theorem dX7_split_105 : decode cX7_split 105 = .ok (.aload_n 0, 1) := by decide +kernel
theorem dX7_split_106 : decode cX7_split 106 = .ok (.getfield 28, 3) := by decide +kernel
theorem dX7_split_109 : decode cX7_split 109 = .ok (.iload 6, 2) := by decide +kernel
theorem dX7_split_111 : decode cX7_split 111 = .ok (.iaload, 1) := by decide +kernel
theorem dX7_split_112 : decode cX7_split 112 = .ok (.aload_n 0, 1) := by decide +kernel
theorem dX7_split_113 : decode cX7_split 113 = .ok (.getfield 28, 3) := by decide +kernel
theorem dX7_split_116 : decode cX7_split 116 = .ok (.iload 5, 2) := by decide +kernel
theorem dX7_split_118 : decode cX7_split 118 = .ok (.iaload, 1) := by decide +kernel
theorem dX7_split_119 : decode cX7_split 119 = .ok (.if_icmp .le 8, 3) := by decide +kernel
theorem dX7_split_122 : decode cX7_split 122 = .ok (.iload 6, 2) := by decide +kernel
theorem dX7_split_124 : decode cX7_split 124 = .ok (.goto 5, 3) := by decide +kernel
theorem dX7_split_127 : decode cX7_split 127 = .ok (.iload 5, 2) := by decide +kernel
theorem dX7_split_129 : decode cX7_split 129 = .ok (.istore 5, 2) := by decide +kernel
theorem dX7_split_131 : decode cX7_split 131 = .ok (.iinc 6 1, 3) := by decide +kernel
theorem dX7_split_134 : decode cX7_split 134 = .ok (.goto (-36), 3) := by decide +kernel
theorem dX7_split_137 : decode cX7_split 137 = .ok (.aload_n 0, 1) := by decide +kernel
theorem dX7_split_138 : decode cX7_split 138 = .ok (.getfield 25, 3) := by decide +kernel
theorem dX7_split_141 : decode cX7_split 141 = .ok (.iload 5, 2) := by decide +kernel
theorem dX7_split_143 : decode cX7_split 143 = .ok (.dup2, 1) := by decide +kernel
theorem dX7_split_144 : decode cX7_split 144 = .ok (.iaload, 1) := by decide +kernel
theorem dX7_split_145 : decode cX7_split 145 = .ok (.iconst 1, 1) := by decide +kernel
theorem dX7_split_146 : decode cX7_split 146 = .ok (.iadd, 1) := by decide +kernel
theorem dX7_split_147 : decode cX7_split 147 = .ok (.iastore, 1) := by decide +kernel
theorem dX7_split_148 : decode cX7_split 148 = .ok (.aload_n 0, 1) := by decide +kernel
theorem dX7_split_149 : decode cX7_split 149 = .ok (.getfield 28, 3) := by decide +kernel
theorem dX7_split_152 : decode cX7_split 152 = .ok (.iload 5, 2) := by decide +kernel
theorem dX7_split_154 : decode cX7_split 154 = .ok (.iconst (-1), 1) := by decide +kernel
theorem dX7_split_155 : decode cX7_split 155 = .ok (.iastore, 1) := by decide +kernel
theorem dX7_split_156 : decode cX7_split 156 = .ok (.iinc 4 (-1), 3) := by decide +kernel
theorem dX7_split_159 : decode cX7_split 159 = .ok (.goto (-72), 3) := by decide +kernel
theorem dX7_split_162 : decode cX7_split 162 = .ok (.return_, 1) := by decide +kernel
theorem dX7_capped_0 : decode cX7_capped 0 = .ok (.aload_n 0, 1) := by decide +kernel
theorem dX7_capped_1 : decode cX7_capped 1 = .ok (.getfield 7, 3) := by decide +kernel
theorem dX7_capped_4 : decode cX7_capped 4 = .ok (.bipush 10, 2) := by decide +kernel
theorem dX7_capped_6 : decode cX7_capped 6 = .ok (.iaload, 1) := by decide +kernel
theorem dX7_capped_7 : decode cX7_capped 7 = .ok (.istore 4, 2) := by decide +kernel
theorem dX7_capped_9 : decode cX7_capped 9 = .ok (.sipush 666, 3) := by decide +kernel
theorem dX7_capped_12 : decode cX7_capped 12 = .ok (.bipush 12, 2) := by decide +kernel
theorem dX7_capped_14 : decode cX7_capped 14 = .ok (.iload_n 1, 1) := by decide +kernel
theorem dX7_capped_15 : decode cX7_capped 15 = .ok (.imul, 1) := by decide +kernel
theorem dX7_capped_16 : decode cX7_capped 16 = .ok (.iadd, 1) := by decide +kernel
theorem dX7_capped_17 : decode cX7_capped 17 = .ok (.iload_n 2, 1) := by decide +kernel
theorem dX7_capped_18 : decode cX7_capped 18 = .ok (.iadd, 1) := by decide +kernel
theorem dX7_capped_19 : decode cX7_capped 19 = .ok (.istore 5, 2) := by decide +kernel
theorem dX7_capped_21 : decode cX7_capped 21 = .ok (.iload 4, 2) := by decide +kernel
theorem dX7_capped_23 : decode cX7_capped 23 = .ok (.aload_n 0, 1) := by decide +kernel
theorem dX7_capped_24 : decode cX7_capped 24 = .ok (.getfield 7, 3) := by decide +kernel
theorem dX7_capped_27 : decode cX7_capped 27 = .ok (.iload 5, 2) := by decide +kernel
theorem dX7_capped_29 : decode cX7_capped 29 = .ok (.iaload, 1) := by decide +kernel
theorem dX7_capped_30 : decode cX7_capped 30 = .ok (.if_icmp .le 16, 3) := by decide +kernel
theorem dX7_capped_33 : decode cX7_capped 33 = .ok (.iload 4, 2) := by decide +kernel
theorem dX7_capped_35 : decode cX7_capped 35 = .ok (.aload_n 0, 1) := by decide +kernel
theorem dX7_capped_36 : decode cX7_capped 36 = .ok (.getfield 7, 3) := by decide +kernel
theorem dX7_capped_39 : decode cX7_capped 39 = .ok (.iload 5, 2) := by decide +kernel
theorem dX7_capped_41 : decode cX7_capped 41 = .ok (.iaload, 1) := by decide +kernel
theorem dX7_capped_42 : decode cX7_capped 42 = .ok (.isub, 1) := by decide +kernel
theorem dX7_capped_43 : decode cX7_capped 43 = .ok (.goto 4, 3) := by decide +kernel
theorem dX7_capped_46 : decode cX7_capped 46 = .ok (.iconst 0, 1) := by decide +kernel
theorem dX7_capped_47 : decode cX7_capped 47 = .ok (.istore 6, 2) := by decide +kernel
theorem dX7_capped_49 : decode cX7_capped 49 = .ok (.iload 4, 2) := by decide +kernel
theorem dX7_capped_51 : decode cX7_capped 51 = .ok (.ifCond .le 16, 3) := by decide +kernel
theorem dX7_capped_54 : decode cX7_capped 54 = .ok (.iload_n 3, 1) := by decide +kernel
theorem dX7_capped_55 : decode cX7_capped 55 = .ok (.iload 6, 2) := by decide +kernel
theorem dX7_capped_57 : decode cX7_capped 57 = .ok (.if_icmp .le 10, 3) := by decide +kernel
theorem dX7_capped_60 : decode cX7_capped 60 = .ok (.iload_n 3, 1) := by decide +kernel
theorem dX7_capped_61 : decode cX7_capped 61 = .ok (.iload 6, 2) := by decide +kernel
theorem dX7_capped_63 : decode cX7_capped 63 = .ok (.isub, 1) := by decide +kernel
theorem dX7_capped_64 : decode cX7_capped 64 = .ok (.goto 4, 3) := by decide +kernel
theorem dX7_capped_67 : decode cX7_capped 67 = .ok (.iconst 0, 1) := by decide +kernel
theorem dX7_capped_68 : decode cX7_capped 68 = .ok (.istore 7, 2) := by decide +kernel
theorem dX7_capped_70 : decode cX7_capped 70 = .ok (.aload_n 0, 1) := by decide +kernel
theorem dX7_capped_71 : decode cX7_capped 71 = .ok (.iload 7, 2) := by decide +kernel
theorem dX7_capped_73 : decode cX7_capped 73 = .ok (.invokevirtual 139, 3) := by decide +kernel
theorem dX7_capped_76 : decode cX7_capped 76 = .ok (.aload_n 0, 1) := by decide +kernel
theorem dX7_capped_77 : decode cX7_capped 77 = .ok (.getfield 7, 3) := by decide +kernel
theorem dX7_capped_80 : decode cX7_capped 80 = .ok (.bipush 7, 2) := by decide +kernel
theorem dX7_capped_82 : decode cX7_capped 82 = .ok (.dup2, 1) := by decide +kernel
theorem dX7_capped_83 : decode cX7_capped 83 = .ok (.iaload, 1) := by decide +kernel
theorem dX7_capped_84 : decode cX7_capped 84 = .ok (.iload 7, 2) := by decide +kernel
theorem dX7_capped_86 : decode cX7_capped 86 = .ok (.iadd, 1) := by decide +kernel
theorem dX7_capped_87 : decode cX7_capped 87 = .ok (.iastore, 1) := by decide +kernel
theorem dX7_capped_88 : decode cX7_capped 88 = .ok (.aload_n 0, 1) := by decide +kernel
theorem dX7_capped_89 : decode cX7_capped 89 = .ok (.getfield 7, 3) := by decide +kernel
theorem dX7_capped_92 : decode cX7_capped 92 = .ok (.iload 5, 2) := by decide +kernel
theorem dX7_capped_94 : decode cX7_capped 94 = .ok (.dup2, 1) := by decide +kernel
theorem dX7_capped_95 : decode cX7_capped 95 = .ok (.iaload, 1) := by decide +kernel
theorem dX7_capped_96 : decode cX7_capped 96 = .ok (.iload_n 3, 1) := by decide +kernel
theorem dX7_capped_97 : decode cX7_capped 97 = .ok (.iload 7, 2) := by decide +kernel
theorem dX7_capped_99 : decode cX7_capped 99 = .ok (.isub, 1) := by decide +kernel
theorem dX7_capped_100 : decode cX7_capped 100 = .ok (.iadd, 1) := by decide +kernel
theorem dX7_capped_101 : decode cX7_capped 101 = .ok (.iastore, 1) := by decide +kernel
theorem dX7_capped_102 : decode cX7_capped 102 = .ok (.iload_n 3, 1) := by decide +kernel
theorem dX7_capped_103 : decode cX7_capped 103 = .ok (.iload 7, 2) := by decide +kernel
theorem dX7_capped_105 : decode cX7_capped 105 = .ok (.isub, 1) := by decide +kernel
theorem dX7_capped_106 : decode cX7_capped 106 = .ok (.ireturn, 1) := by decide +kernel
theorem dX7_comesIn_0 : decode cX7_comesIn 0 = .ok (.aload_n 0, 1) := by decide +kernel
theorem dX7_comesIn_1 : decode cX7_comesIn 1 = .ok (.iconst 0, 1) := by decide +kernel
theorem dX7_comesIn_2 : decode cX7_comesIn 2 = .ok (.putfield 136, 3) := by decide +kernel
theorem dX7_comesIn_5 : decode cX7_comesIn 5 = .ok (.aload_n 0, 1) := by decide +kernel
theorem dX7_comesIn_6 : decode cX7_comesIn 6 = .ok (.getfield 7, 3) := by decide +kernel
theorem dX7_comesIn_9 : decode cX7_comesIn 9 = .ok (.iconst 4, 1) := by decide +kernel
theorem dX7_comesIn_10 : decode cX7_comesIn 10 = .ok (.dup2, 1) := by decide +kernel
theorem dX7_comesIn_11 : decode cX7_comesIn 11 = .ok (.iaload, 1) := by decide +kernel
theorem dX7_comesIn_12 : decode cX7_comesIn 12 = .ok (.iload_n 2, 1) := by decide +kernel
theorem dX7_comesIn_13 : decode cX7_comesIn 13 = .ok (.iadd, 1) := by decide +kernel
theorem dX7_comesIn_14 : decode cX7_comesIn 14 = .ok (.iastore, 1) := by decide +kernel
theorem dX7_comesIn_15 : decode cX7_comesIn 15 = .ok (.iload_n 2, 1) := by decide +kernel
theorem dX7_comesIn_16 : decode cX7_comesIn 16 = .ok (.aload_n 0, 1) := by decide +kernel
theorem dX7_comesIn_17 : decode cX7_comesIn 17 = .ok (.getfield 7, 3) := by decide +kernel
theorem dX7_comesIn_20 : decode cX7_comesIn 20 = .ok (.bipush 8, 2) := by decide +kernel
theorem dX7_comesIn_22 : decode cX7_comesIn 22 = .ok (.iaload, 1) := by decide +kernel
theorem dX7_comesIn_23 : decode cX7_comesIn 23 = .ok (.imul, 1) := by decide +kernel
theorem dX7_comesIn_24 : decode cX7_comesIn 24 = .ok (.bipush 100, 2) := by decide +kernel
theorem dX7_comesIn_26 : decode cX7_comesIn 26 = .ok (.idiv, 1) := by decide +kernel
theorem dX7_comesIn_27 : decode cX7_comesIn 27 = .ok (.istore 4, 2) := by decide +kernel
theorem dX7_comesIn_29 : decode cX7_comesIn 29 = .ok (.iload_n 3, 1) := by decide +kernel
theorem dX7_comesIn_30 : decode cX7_comesIn 30 = .ok (.ifCond .eq 18, 3) := by decide +kernel
theorem dX7_comesIn_33 : decode cX7_comesIn 33 = .ok (.iload_n 2, 1) := by decide +kernel
theorem dX7_comesIn_34 : decode cX7_comesIn 34 = .ok (.aload_n 0, 1) := by decide +kernel
theorem dX7_comesIn_35 : decode cX7_comesIn 35 = .ok (.getfield 7, 3) := by decide +kernel
theorem dX7_comesIn_38 : decode cX7_comesIn 38 = .ok (.bipush 9, 2) := by decide +kernel
theorem dX7_comesIn_40 : decode cX7_comesIn 40 = .ok (.iaload, 1) := by decide +kernel
theorem dX7_comesIn_41 : decode cX7_comesIn 41 = .ok (.imul, 1) := by decide +kernel
theorem dX7_comesIn_42 : decode cX7_comesIn 42 = .ok (.bipush 100, 2) := by decide +kernel
theorem dX7_comesIn_44 : decode cX7_comesIn 44 = .ok (.idiv, 1) := by decide +kernel
theorem dX7_comesIn_45 : decode cX7_comesIn 45 = .ok (.goto 4, 3) := by decide +kernel
theorem dX7_comesIn_48 : decode cX7_comesIn 48 = .ok (.iconst 0, 1) := by decide +kernel
theorem dX7_comesIn_49 : decode cX7_comesIn 49 = .ok (.istore 5, 2) := by decide +kernel
theorem dX7_comesIn_51 : decode cX7_comesIn 51 = .ok (.aload_n 0, 1) := by decide +kernel
theorem dX7_comesIn_52 : decode cX7_comesIn 52 = .ok (.iload 4, 2) := by decide +kernel
theorem dX7_comesIn_54 : decode cX7_comesIn 54 = .ok (.invokevirtual 139, 3) := by decide +kernel
theorem dX7_comesIn_57 : decode cX7_comesIn 57 = .ok (.iload_n 3, 1) := by decide +kernel
theorem dX7_comesIn_58 : decode cX7_comesIn 58 = .ok (.ifCond .eq 37, 3) := by decide +kernel
theorem dX7_comesIn_61 : decode cX7_comesIn 61 = .ok (.aload_n 0, 1) := by decide +kernel
theorem dX7_comesIn_62 : decode cX7_comesIn 62 = .ok (.getfield 7, 3) := by decide +kernel
theorem dX7_comesIn_65 : decode cX7_comesIn 65 = .ok (.bipush 86, 2) := by decide +kernel
theorem dX7_comesIn_67 : decode cX7_comesIn 67 = .ok (.iconst 5, 1) := by decide +kernel
theorem dX7_comesIn_68 : decode cX7_comesIn 68 = .ok (.iload_n 1, 1) := by decide +kernel
theorem dX7_comesIn_69 : decode cX7_comesIn 69 = .ok (.imul, 1) := by decide +kernel
theorem dX7_comesIn_70 : decode cX7_comesIn 70 = .ok (.iadd, 1) := by decide +kernel
theorem dX7_comesIn_71 : decode cX7_comesIn 71 = .ok (.iconst 4, 1) := by decide +kernel
theorem dX7_comesIn_72 : decode cX7_comesIn 72 = .ok (.iadd, 1) := by decide +kernel
theorem dX7_comesIn_73 : decode cX7_comesIn 73 = .ok (.dup2, 1) := by decide +kernel
theorem dX7_comesIn_74 : decode cX7_comesIn 74 = .ok (.iaload, 1) := by decide +kernel
theorem dX7_comesIn_75 : decode cX7_comesIn 75 = .ok (.iload_n 2, 1) := by decide +kernel
theorem dX7_comesIn_76 : decode cX7_comesIn 76 = .ok (.iadd, 1) := by decide +kernel
theorem dX7_comesIn_77 : decode cX7_comesIn 77 = .ok (.iastore, 1) := by decide +kernel
theorem dX7_comesIn_78 : decode cX7_comesIn 78 = .ok (.aload_n 0, 1) := by decide +kernel
theorem dX7_comesIn_79 : decode cX7_comesIn 79 = .ok (.aload_n 0, 1) := by decide +kernel
theorem dX7_comesIn_80 : decode cX7_comesIn 80 = .ok (.aload_n 0, 1) := by decide +kernel
theorem dX7_comesIn_81 : decode cX7_comesIn 81 = .ok (.iload_n 1, 1) := by decide +kernel
theorem dX7_comesIn_82 : decode cX7_comesIn 82 = .ok (.iconst 0, 1) := by decide +kernel
theorem dX7_comesIn_83 : decode cX7_comesIn 83 = .ok (.invokevirtual 80, 3) := by decide +kernel
theorem dX7_comesIn_86 : decode cX7_comesIn 86 = .ok (.iconst 3, 1) := by decide +kernel
theorem dX7_comesIn_87 : decode cX7_comesIn 87 = .ok (.invokevirtual 61, 3) := by decide +kernel
theorem dX7_comesIn_90 : decode cX7_comesIn 90 = .ok (.iload 5, 2) := by decide +kernel
theorem dX7_comesIn_92 : decode cX7_comesIn 92 = .ok (.invokevirtual 146, 3) := by decide +kernel
theorem dX7_comesIn_95 : decode cX7_comesIn 95 = .ok (.aload_n 0, 1) := by decide +kernel
theorem dX7_comesIn_96 : decode cX7_comesIn 96 = .ok (.iload_n 1, 1) := by decide +kernel
theorem dX7_comesIn_97 : decode cX7_comesIn 97 = .ok (.iload_n 2, 1) := by decide +kernel
theorem dX7_comesIn_98 : decode cX7_comesIn 98 = .ok (.iload 4, 2) := by decide +kernel
theorem dX7_comesIn_100 : decode cX7_comesIn 100 = .ok (.isub, 1) := by decide +kernel
theorem dX7_comesIn_101 : decode cX7_comesIn 101 = .ok (.iload 5, 2) := by decide +kernel
theorem dX7_comesIn_103 : decode cX7_comesIn 103 = .ok (.isub, 1) := by decide +kernel
theorem dX7_comesIn_104 : decode cX7_comesIn 104 = .ok (.invokevirtual 150, 3) := by decide +kernel
theorem dX7_comesIn_107 : decode cX7_comesIn 107 = .ok (.iconst 0, 1) := by decide +kernel
theorem dX7_comesIn_108 : decode cX7_comesIn 108 = .ok (.istore 6, 2) := by decide +kernel
theorem dX7_comesIn_110 : decode cX7_comesIn 110 = .ok (.iload 6, 2) := by decide +kernel
theorem dX7_comesIn_112 : decode cX7_comesIn 112 = .ok (.aload_n 0, 1) := by decide +kernel
theorem dX7_comesIn_113 : decode cX7_comesIn 113 = .ok (.getfield 7, 3) := by decide +kernel
theorem dX7_comesIn_116 : decode cX7_comesIn 116 = .ok (.iconst 0, 1) := by decide +kernel
theorem dX7_comesIn_117 : decode cX7_comesIn 117 = .ok (.iaload, 1) := by decide +kernel
theorem dX7_comesIn_118 : decode cX7_comesIn 118 = .ok (.if_icmp .ge 47, 3) := by decide +kernel
theorem dX7_comesIn_121 : decode cX7_comesIn 121 = .ok (.iload_n 3, 1) := by decide +kernel
theorem dX7_comesIn_122 : decode cX7_comesIn 122 = .ok (.ifCond .eq 20, 3) := by decide +kernel
theorem dX7_comesIn_125 : decode cX7_comesIn 125 = .ok (.aload_n 0, 1) := by decide +kernel
theorem dX7_comesIn_126 : decode cX7_comesIn 126 = .ok (.iload_n 1, 1) := by decide +kernel
theorem dX7_comesIn_127 : decode cX7_comesIn 127 = .ok (.iload 6, 2) := by decide +kernel
theorem dX7_comesIn_129 : decode cX7_comesIn 129 = .ok (.aload_n 0, 1) := by decide +kernel
theorem dX7_comesIn_130 : decode cX7_comesIn 130 = .ok (.getfield 25, 3) := by decide +kernel
theorem dX7_comesIn_133 : decode cX7_comesIn 133 = .ok (.iload 6, 2) := by decide +kernel
theorem dX7_comesIn_135 : decode cX7_comesIn 135 = .ok (.iaload, 1) := by decide +kernel
theorem dX7_comesIn_136 : decode cX7_comesIn 136 = .ok (.invokevirtual 153, 3) := by decide +kernel
theorem dX7_comesIn_139 : decode cX7_comesIn 139 = .ok (.goto 10, 3) := by decide +kernel
theorem dX7_comesIn_142 : decode cX7_comesIn 142 = .ok (.aload_n 0, 1) := by decide +kernel
theorem dX7_comesIn_143 : decode cX7_comesIn 143 = .ok (.getfield 25, 3) := by decide +kernel
theorem dX7_comesIn_146 : decode cX7_comesIn 146 = .ok (.iload 6, 2) := by decide +kernel
theorem dX7_comesIn_148 : decode cX7_comesIn 148 = .ok (.iaload, 1) := by decide +kernel
theorem dX7_comesIn_149 : decode cX7_comesIn 149 = .ok (.istore 7, 2) := by decide +kernel
theorem dX7_comesIn_151 : decode cX7_comesIn 151 = .ok (.aload_n 0, 1) := by decide +kernel
theorem dX7_comesIn_152 : decode cX7_comesIn 152 = .ok (.iload 6, 2) := by decide +kernel
theorem dX7_comesIn_154 : decode cX7_comesIn 154 = .ok (.iload 7, 2) := by decide +kernel
theorem dX7_comesIn_156 : decode cX7_comesIn 156 = .ok (.invokevirtual 146, 3) := by decide +kernel
theorem dX7_comesIn_159 : decode cX7_comesIn 159 = .ok (.iinc 6 1, 3) := by decide +kernel
theorem dX7_comesIn_162 : decode cX7_comesIn 162 = .ok (.goto (-52), 3) := by decide +kernel
theorem dX7_comesIn_165 : decode cX7_comesIn 165 = .ok (.return_, 1) := by decide +kernel
theorem dX7_accept_0 : decode cX7_accept 0 = .ok (.aload_n 0, 1) := by decide +kernel
theorem dX7_accept_1 : decode cX7_accept 1 = .ok (.iconst 0, 1) := by decide +kernel
theorem dX7_accept_2 : decode cX7_accept 2 = .ok (.putfield 40, 3) := by decide +kernel
theorem dX7_accept_5 : decode cX7_accept 5 = .ok (.aload_n 0, 1) := by decide +kernel
theorem dX7_accept_6 : decode cX7_accept 6 = .ok (.iload_n 1, 1) := by decide +kernel
theorem dX7_accept_7 : decode cX7_accept 7 = .ok (.invokevirtual 77, 3) := by decide +kernel
theorem dX7_accept_10 : decode cX7_accept 10 = .ok (.ifCond .ne 9, 3) := by decide +kernel
theorem dX7_accept_13 : decode cX7_accept 13 = .ok (.aload_n 0, 1) := by decide +kernel
theorem dX7_accept_14 : decode cX7_accept 14 = .ok (.iconst 1, 1) := by decide +kernel
theorem dX7_accept_15 : decode cX7_accept 15 = .ok (.invokevirtual 55, 3) := by decide +kernel
theorem dX7_accept_18 : decode cX7_accept 18 = .ok (.ireturn, 1) := by decide +kernel
theorem dX7_accept_19 : decode cX7_accept 19 = .ok (.aload_n 0, 1) := by decide +kernel
theorem dX7_accept_20 : decode cX7_accept 20 = .ok (.iload_n 1, 1) := by decide +kernel
theorem dX7_accept_21 : decode cX7_accept 21 = .ok (.iconst 2, 1) := by decide +kernel
theorem dX7_accept_22 : decode cX7_accept 22 = .ok (.invokevirtual 80, 3) := by decide +kernel
theorem dX7_accept_25 : decode cX7_accept 25 = .ok (.iconst 1, 1) := by decide +kernel
theorem dX7_accept_26 : decode cX7_accept 26 = .ok (.iconst 2, 1) := by decide +kernel
theorem dX7_accept_27 : decode cX7_accept 27 = .ok (.invokestatic 44, 3) := by decide +kernel
theorem dX7_accept_30 : decode cX7_accept 30 = .ok (.ifCond .ne 9, 3) := by decide +kernel
theorem dX7_accept_33 : decode cX7_accept 33 = .ok (.aload_n 0, 1) := by decide +kernel
theorem dX7_accept_34 : decode cX7_accept 34 = .ok (.iconst 2, 1) := by decide +kernel
theorem dX7_accept_35 : decode cX7_accept 35 = .ok (.invokevirtual 55, 3) := by decide +kernel
theorem dX7_accept_38 : decode cX7_accept 38 = .ok (.ireturn, 1) := by decide +kernel
theorem dX7_accept_39 : decode cX7_accept 39 = .ok (.aload_n 0, 1) := by decide +kernel
theorem dX7_accept_40 : decode cX7_accept 40 = .ok (.invokevirtual 58, 3) := by decide +kernel
theorem dX7_accept_43 : decode cX7_accept 43 = .ok (.aload_n 0, 1) := by decide +kernel
theorem dX7_accept_44 : decode cX7_accept 44 = .ok (.getfield 7, 3) := by decide +kernel
theorem dX7_accept_47 : decode cX7_accept 47 = .ok (.bipush 86, 2) := by decide +kernel
theorem dX7_accept_49 : decode cX7_accept 49 = .ok (.iconst 5, 1) := by decide +kernel
theorem dX7_accept_50 : decode cX7_accept 50 = .ok (.iload_n 1, 1) := by decide +kernel
theorem dX7_accept_51 : decode cX7_accept 51 = .ok (.imul, 1) := by decide +kernel
theorem dX7_accept_52 : decode cX7_accept 52 = .ok (.iadd, 1) := by decide +kernel
theorem dX7_accept_53 : decode cX7_accept 53 = .ok (.iconst 2, 1) := by decide +kernel
theorem dX7_accept_54 : decode cX7_accept 54 = .ok (.iadd, 1) := by decide +kernel
theorem dX7_accept_55 : decode cX7_accept 55 = .ok (.iconst 3, 1) := by decide +kernel
theorem dX7_accept_56 : decode cX7_accept 56 = .ok (.iastore, 1) := by decide +kernel
theorem dX7_accept_57 : decode cX7_accept 57 = .ok (.aload_n 0, 1) := by decide +kernel
theorem dX7_accept_58 : decode cX7_accept 58 = .ok (.iload_n 1, 1) := by decide +kernel
theorem dX7_accept_59 : decode cX7_accept 59 = .ok (.aload_n 0, 1) := by decide +kernel
theorem dX7_accept_60 : decode cX7_accept 60 = .ok (.iload_n 1, 1) := by decide +kernel
theorem dX7_accept_61 : decode cX7_accept 61 = .ok (.iconst 1, 1) := by decide +kernel
theorem dX7_accept_62 : decode cX7_accept 62 = .ok (.invokevirtual 80, 3) := by decide +kernel
theorem dX7_accept_65 : decode cX7_accept 65 = .ok (.iconst 0, 1) := by decide +kernel
theorem dX7_accept_66 : decode cX7_accept 66 = .ok (.invokevirtual 156, 3) := by decide +kernel
theorem dX7_accept_69 : decode cX7_accept 69 = .ok (.aload_n 0, 1) := by decide +kernel
theorem dX7_accept_70 : decode cX7_accept 70 = .ok (.getfield 136, 3) := by decide +kernel
theorem dX7_accept_73 : decode cX7_accept 73 = .ok (.ireturn, 1) := by decide +kernel
theorem dX7_killFee_0 : decode cX7_killFee 0 = .ok (.aload_n 0, 1) := by decide +kernel
theorem dX7_killFee_1 : decode cX7_killFee 1 = .ok (.iload_n 1, 1) := by decide +kernel
theorem dX7_killFee_2 : decode cX7_killFee 2 = .ok (.iconst 2, 1) := by decide +kernel
theorem dX7_killFee_3 : decode cX7_killFee 3 = .ok (.invokevirtual 80, 3) := by decide +kernel
theorem dX7_killFee_6 : decode cX7_killFee 6 = .ok (.istore_n 2, 1) := by decide +kernel
theorem dX7_killFee_7 : decode cX7_killFee 7 = .ok (.iload_n 2, 1) := by decide +kernel
theorem dX7_killFee_8 : decode cX7_killFee 8 = .ok (.iconst 3, 1) := by decide +kernel
theorem dX7_killFee_9 : decode cX7_killFee 9 = .ok (.if_icmp .lt 7, 3) := by decide +kernel
theorem dX7_killFee_12 : decode cX7_killFee 12 = .ok (.iconst 0, 1) := by decide +kernel
theorem dX7_killFee_13 : decode cX7_killFee 13 = .ok (.goto 22, 3) := by decide +kernel
theorem dX7_killFee_16 : decode cX7_killFee 16 = .ok (.aload_n 0, 1) := by decide +kernel
theorem dX7_killFee_17 : decode cX7_killFee 17 = .ok (.iload_n 1, 1) := by decide +kernel
theorem dX7_killFee_18 : decode cX7_killFee 18 = .ok (.iconst 1, 1) := by decide +kernel
theorem dX7_killFee_19 : decode cX7_killFee 19 = .ok (.invokevirtual 80, 3) := by decide +kernel
theorem dX7_killFee_22 : decode cX7_killFee 22 = .ok (.aload_n 0, 1) := by decide +kernel
theorem dX7_killFee_23 : decode cX7_killFee 23 = .ok (.getfield 7, 3) := by decide +kernel
theorem dX7_killFee_26 : decode cX7_killFee 26 = .ok (.bipush 11, 2) := by decide +kernel
theorem dX7_killFee_28 : decode cX7_killFee 28 = .ok (.iload_n 2, 1) := by decide +kernel
theorem dX7_killFee_29 : decode cX7_killFee 29 = .ok (.iadd, 1) := by decide +kernel
theorem dX7_killFee_30 : decode cX7_killFee 30 = .ok (.iaload, 1) := by decide +kernel
theorem dX7_killFee_31 : decode cX7_killFee 31 = .ok (.imul, 1) := by decide +kernel
theorem dX7_killFee_32 : decode cX7_killFee 32 = .ok (.bipush 100, 2) := by decide +kernel
theorem dX7_killFee_34 : decode cX7_killFee 34 = .ok (.idiv, 1) := by decide +kernel
theorem dX7_killFee_35 : decode cX7_killFee 35 = .ok (.ireturn, 1) := by decide +kernel
theorem dX7_kill_0 : decode cX7_kill 0 = .ok (.aload_n 0, 1) := by decide +kernel
theorem dX7_kill_1 : decode cX7_kill 1 = .ok (.iconst 0, 1) := by decide +kernel
theorem dX7_kill_2 : decode cX7_kill 2 = .ok (.putfield 40, 3) := by decide +kernel
theorem dX7_kill_5 : decode cX7_kill 5 = .ok (.aload_n 0, 1) := by decide +kernel
theorem dX7_kill_6 : decode cX7_kill 6 = .ok (.iload_n 1, 1) := by decide +kernel
theorem dX7_kill_7 : decode cX7_kill 7 = .ok (.invokevirtual 77, 3) := by decide +kernel
theorem dX7_kill_10 : decode cX7_kill 10 = .ok (.ifCond .ne 9, 3) := by decide +kernel
theorem dX7_kill_13 : decode cX7_kill 13 = .ok (.aload_n 0, 1) := by decide +kernel
theorem dX7_kill_14 : decode cX7_kill 14 = .ok (.iconst 1, 1) := by decide +kernel
theorem dX7_kill_15 : decode cX7_kill 15 = .ok (.invokevirtual 55, 3) := by decide +kernel
theorem dX7_kill_18 : decode cX7_kill 18 = .ok (.ireturn, 1) := by decide +kernel
theorem dX7_kill_19 : decode cX7_kill 19 = .ok (.aload_n 0, 1) := by decide +kernel
theorem dX7_kill_20 : decode cX7_kill 20 = .ok (.iload_n 1, 1) := by decide +kernel
theorem dX7_kill_21 : decode cX7_kill 21 = .ok (.iconst 2, 1) := by decide +kernel
theorem dX7_kill_22 : decode cX7_kill 22 = .ok (.invokevirtual 80, 3) := by decide +kernel
theorem dX7_kill_25 : decode cX7_kill 25 = .ok (.iconst 3, 1) := by decide +kernel
theorem dX7_kill_26 : decode cX7_kill 26 = .ok (.if_icmp .lt 9, 3) := by decide +kernel
theorem dX7_kill_29 : decode cX7_kill 29 = .ok (.aload_n 0, 1) := by decide +kernel
theorem dX7_kill_30 : decode cX7_kill 30 = .ok (.iconst 2, 1) := by decide +kernel
theorem dX7_kill_31 : decode cX7_kill 31 = .ok (.invokevirtual 55, 3) := by decide +kernel
theorem dX7_kill_34 : decode cX7_kill 34 = .ok (.ireturn, 1) := by decide +kernel
theorem dX7_kill_35 : decode cX7_kill 35 = .ok (.aload_n 0, 1) := by decide +kernel
theorem dX7_kill_36 : decode cX7_kill 36 = .ok (.invokevirtual 58, 3) := by decide +kernel
theorem dX7_kill_39 : decode cX7_kill 39 = .ok (.aload_n 0, 1) := by decide +kernel
theorem dX7_kill_40 : decode cX7_kill 40 = .ok (.iload_n 1, 1) := by decide +kernel
theorem dX7_kill_41 : decode cX7_kill 41 = .ok (.invokevirtual 160, 3) := by decide +kernel
theorem dX7_kill_44 : decode cX7_kill 44 = .ok (.istore_n 2, 1) := by decide +kernel
theorem dX7_kill_45 : decode cX7_kill 45 = .ok (.aload_n 0, 1) := by decide +kernel
theorem dX7_kill_46 : decode cX7_kill 46 = .ok (.getfield 7, 3) := by decide +kernel
theorem dX7_kill_49 : decode cX7_kill 49 = .ok (.bipush 86, 2) := by decide +kernel
theorem dX7_kill_51 : decode cX7_kill 51 = .ok (.iconst 5, 1) := by decide +kernel
theorem dX7_kill_52 : decode cX7_kill 52 = .ok (.iload_n 1, 1) := by decide +kernel
theorem dX7_kill_53 : decode cX7_kill 53 = .ok (.imul, 1) := by decide +kernel
theorem dX7_kill_54 : decode cX7_kill 54 = .ok (.iadd, 1) := by decide +kernel
theorem dX7_kill_55 : decode cX7_kill 55 = .ok (.iconst 2, 1) := by decide +kernel
theorem dX7_kill_56 : decode cX7_kill 56 = .ok (.iadd, 1) := by decide +kernel
theorem dX7_kill_57 : decode cX7_kill 57 = .ok (.iconst 4, 1) := by decide +kernel
theorem dX7_kill_58 : decode cX7_kill 58 = .ok (.iastore, 1) := by decide +kernel
theorem dX7_kill_59 : decode cX7_kill 59 = .ok (.aload_n 0, 1) := by decide +kernel
theorem dX7_kill_60 : decode cX7_kill 60 = .ok (.iload_n 1, 1) := by decide +kernel
theorem dX7_kill_61 : decode cX7_kill 61 = .ok (.iload_n 2, 1) := by decide +kernel
theorem dX7_kill_62 : decode cX7_kill 62 = .ok (.iconst 0, 1) := by decide +kernel
theorem dX7_kill_63 : decode cX7_kill 63 = .ok (.invokevirtual 156, 3) := by decide +kernel
theorem dX7_kill_66 : decode cX7_kill 66 = .ok (.iload_n 2, 1) := by decide +kernel
theorem dX7_kill_67 : decode cX7_kill 67 = .ok (.ireturn, 1) := by decide +kernel
theorem dX7_royalty_0 : decode cX7_royalty 0 = .ok (.aload_n 0, 1) := by decide +kernel
theorem dX7_royalty_1 : decode cX7_royalty 1 = .ok (.iconst 0, 1) := by decide +kernel
theorem dX7_royalty_2 : decode cX7_royalty 2 = .ok (.putfield 40, 3) := by decide +kernel
theorem dX7_royalty_5 : decode cX7_royalty 5 = .ok (.aload_n 0, 1) := by decide +kernel
theorem dX7_royalty_6 : decode cX7_royalty 6 = .ok (.iload_n 1, 1) := by decide +kernel
theorem dX7_royalty_7 : decode cX7_royalty 7 = .ok (.invokevirtual 77, 3) := by decide +kernel
theorem dX7_royalty_10 : decode cX7_royalty 10 = .ok (.ifCond .ne 9, 3) := by decide +kernel
theorem dX7_royalty_13 : decode cX7_royalty 13 = .ok (.aload_n 0, 1) := by decide +kernel
theorem dX7_royalty_14 : decode cX7_royalty 14 = .ok (.iconst 1, 1) := by decide +kernel
theorem dX7_royalty_15 : decode cX7_royalty 15 = .ok (.invokevirtual 55, 3) := by decide +kernel
theorem dX7_royalty_18 : decode cX7_royalty 18 = .ok (.ireturn, 1) := by decide +kernel
theorem dX7_royalty_19 : decode cX7_royalty 19 = .ok (.iload_n 2, 1) := by decide +kernel
theorem dX7_royalty_20 : decode cX7_royalty 20 = .ok (.iconst 1, 1) := by decide +kernel
theorem dX7_royalty_21 : decode cX7_royalty 21 = .ok (.ldc 69, 2) := by decide +kernel
theorem dX7_royalty_23 : decode cX7_royalty 23 = .ok (.invokestatic 44, 3) := by decide +kernel
theorem dX7_royalty_26 : decode cX7_royalty 26 = .ok (.ifCond .ne 9, 3) := by decide +kernel
theorem dX7_royalty_29 : decode cX7_royalty 29 = .ok (.aload_n 0, 1) := by decide +kernel
theorem dX7_royalty_30 : decode cX7_royalty 30 = .ok (.iconst 2, 1) := by decide +kernel
theorem dX7_royalty_31 : decode cX7_royalty 31 = .ok (.invokevirtual 55, 3) := by decide +kernel
theorem dX7_royalty_34 : decode cX7_royalty 34 = .ok (.ireturn, 1) := by decide +kernel
theorem dX7_royalty_35 : decode cX7_royalty 35 = .ok (.aload_n 0, 1) := by decide +kernel
theorem dX7_royalty_36 : decode cX7_royalty 36 = .ok (.iload_n 1, 1) := by decide +kernel
theorem dX7_royalty_37 : decode cX7_royalty 37 = .ok (.iconst 2, 1) := by decide +kernel
theorem dX7_royalty_38 : decode cX7_royalty 38 = .ok (.invokevirtual 80, 3) := by decide +kernel
theorem dX7_royalty_41 : decode cX7_royalty 41 = .ok (.iconst 3, 1) := by decide +kernel
theorem dX7_royalty_42 : decode cX7_royalty 42 = .ok (.if_icmp .eq 9, 3) := by decide +kernel
theorem dX7_royalty_45 : decode cX7_royalty 45 = .ok (.aload_n 0, 1) := by decide +kernel
theorem dX7_royalty_46 : decode cX7_royalty 46 = .ok (.iconst 3, 1) := by decide +kernel
theorem dX7_royalty_47 : decode cX7_royalty 47 = .ok (.invokevirtual 55, 3) := by decide +kernel
theorem dX7_royalty_50 : decode cX7_royalty 50 = .ok (.ireturn, 1) := by decide +kernel
theorem dX7_royalty_51 : decode cX7_royalty 51 = .ok (.aload_n 0, 1) := by decide +kernel
theorem dX7_royalty_52 : decode cX7_royalty 52 = .ok (.invokevirtual 58, 3) := by decide +kernel
theorem dX7_royalty_55 : decode cX7_royalty 55 = .ok (.aload_n 0, 1) := by decide +kernel
theorem dX7_royalty_56 : decode cX7_royalty 56 = .ok (.iload_n 1, 1) := by decide +kernel
theorem dX7_royalty_57 : decode cX7_royalty 57 = .ok (.iload_n 2, 1) := by decide +kernel
theorem dX7_royalty_58 : decode cX7_royalty 58 = .ok (.iconst 1, 1) := by decide +kernel
theorem dX7_royalty_59 : decode cX7_royalty 59 = .ok (.invokevirtual 156, 3) := by decide +kernel
theorem dX7_royalty_62 : decode cX7_royalty 62 = .ok (.aload_n 0, 1) := by decide +kernel
theorem dX7_royalty_63 : decode cX7_royalty 63 = .ok (.getfield 136, 3) := by decide +kernel
theorem dX7_royalty_66 : decode cX7_royalty 66 = .ok (.ireturn, 1) := by decide +kernel
theorem dX7_canDispute_0 : decode cX7_canDispute 0 = .ok (.aload_n 0, 1) := by decide +kernel
theorem dX7_canDispute_1 : decode cX7_canDispute 1 = .ok (.iload_n 1, 1) := by decide +kernel
theorem dX7_canDispute_2 : decode cX7_canDispute 2 = .ok (.iconst 2, 1) := by decide +kernel
theorem dX7_canDispute_3 : decode cX7_canDispute 3 = .ok (.invokevirtual 80, 3) := by decide +kernel
theorem dX7_canDispute_6 : decode cX7_canDispute 6 = .ok (.iconst 4, 1) := by decide +kernel
theorem dX7_canDispute_7 : decode cX7_canDispute 7 = .ok (.if_icmp .eq 34, 3) := by decide +kernel
theorem dX7_canDispute_10 : decode cX7_canDispute 10 = .ok (.aload_n 0, 1) := by decide +kernel
theorem dX7_canDispute_11 : decode cX7_canDispute 11 = .ok (.iload_n 1, 1) := by decide +kernel
theorem dX7_canDispute_12 : decode cX7_canDispute 12 = .ok (.iload_n 2, 1) := by decide +kernel
theorem dX7_canDispute_13 : decode cX7_canDispute 13 = .ok (.invokevirtual 143, 3) := by decide +kernel
theorem dX7_canDispute_16 : decode cX7_canDispute 16 = .ok (.aload_n 0, 1) := by decide +kernel
theorem dX7_canDispute_17 : decode cX7_canDispute 17 = .ok (.iload_n 1, 1) := by decide +kernel
theorem dX7_canDispute_18 : decode cX7_canDispute 18 = .ok (.invokevirtual 83, 3) := by decide +kernel
theorem dX7_canDispute_21 : decode cX7_canDispute 21 = .ok (.imul, 1) := by decide +kernel
theorem dX7_canDispute_22 : decode cX7_canDispute 22 = .ok (.aload_n 0, 1) := by decide +kernel
theorem dX7_canDispute_23 : decode cX7_canDispute 23 = .ok (.iload_n 1, 1) := by decide +kernel
theorem dX7_canDispute_24 : decode cX7_canDispute 24 = .ok (.iload_n 2, 1) := by decide +kernel
theorem dX7_canDispute_25 : decode cX7_canDispute 25 = .ok (.invokevirtual 163, 3) := by decide +kernel
theorem dX7_canDispute_28 : decode cX7_canDispute 28 = .ok (.aload_n 0, 1) := by decide +kernel
theorem dX7_canDispute_29 : decode cX7_canDispute 29 = .ok (.iload_n 1, 1) := by decide +kernel
theorem dX7_canDispute_30 : decode cX7_canDispute 30 = .ok (.invokevirtual 133, 3) := by decide +kernel
theorem dX7_canDispute_33 : decode cX7_canDispute 33 = .ok (.imul, 1) := by decide +kernel
theorem dX7_canDispute_34 : decode cX7_canDispute 34 = .ok (.if_icmp .ge 7, 3) := by decide +kernel
theorem dX7_canDispute_37 : decode cX7_canDispute 37 = .ok (.iconst 1, 1) := by decide +kernel
theorem dX7_canDispute_38 : decode cX7_canDispute 38 = .ok (.goto 4, 3) := by decide +kernel
theorem dX7_canDispute_41 : decode cX7_canDispute 41 = .ok (.iconst 0, 1) := by decide +kernel
theorem dX7_canDispute_42 : decode cX7_canDispute 42 = .ok (.ireturn, 1) := by decide +kernel
theorem dX7_isWriter_0 : decode cX7_isWriter 0 = .ok (.iconst 0, 1) := by decide +kernel
theorem dX7_isWriter_1 : decode cX7_isWriter 1 = .ok (.istore_n 2, 1) := by decide +kernel
theorem dX7_isWriter_2 : decode cX7_isWriter 2 = .ok (.iconst 0, 1) := by decide +kernel
theorem dX7_isWriter_3 : decode cX7_isWriter 3 = .ok (.istore_n 3, 1) := by decide +kernel
theorem dX7_isWriter_4 : decode cX7_isWriter 4 = .ok (.iload_n 3, 1) := by decide +kernel
theorem dX7_isWriter_5 : decode cX7_isWriter 5 = .ok (.aload_n 0, 1) := by decide +kernel
theorem dX7_isWriter_6 : decode cX7_isWriter 6 = .ok (.getfield 166, 3) := by decide +kernel
theorem dX7_isWriter_9 : decode cX7_isWriter 9 = .ok (.if_icmp .ge 29, 3) := by decide +kernel
theorem dX7_isWriter_12 : decode cX7_isWriter 12 = .ok (.iload_n 2, 1) := by decide +kernel
theorem dX7_isWriter_13 : decode cX7_isWriter 13 = .ok (.ifCond .ne 13, 3) := by decide +kernel
theorem dX7_isWriter_16 : decode cX7_isWriter 16 = .ok (.aload_n 0, 1) := by decide +kernel
theorem dX7_isWriter_17 : decode cX7_isWriter 17 = .ok (.getfield 31, 3) := by decide +kernel
theorem dX7_isWriter_20 : decode cX7_isWriter 20 = .ok (.iload_n 3, 1) := by decide +kernel
theorem dX7_isWriter_21 : decode cX7_isWriter 21 = .ok (.iaload, 1) := by decide +kernel
theorem dX7_isWriter_22 : decode cX7_isWriter 22 = .ok (.iload_n 1, 1) := by decide +kernel
theorem dX7_isWriter_23 : decode cX7_isWriter 23 = .ok (.if_icmp .ne 7, 3) := by decide +kernel
theorem dX7_isWriter_26 : decode cX7_isWriter 26 = .ok (.iconst 1, 1) := by decide +kernel
theorem dX7_isWriter_27 : decode cX7_isWriter 27 = .ok (.goto 4, 3) := by decide +kernel
theorem dX7_isWriter_30 : decode cX7_isWriter 30 = .ok (.iconst 0, 1) := by decide +kernel
theorem dX7_isWriter_31 : decode cX7_isWriter 31 = .ok (.istore_n 2, 1) := by decide +kernel
theorem dX7_isWriter_32 : decode cX7_isWriter 32 = .ok (.iinc 3 1, 3) := by decide +kernel
theorem dX7_isWriter_35 : decode cX7_isWriter 35 = .ok (.goto (-31), 3) := by decide +kernel
theorem dX7_isWriter_38 : decode cX7_isWriter 38 = .ok (.iload_n 2, 1) := by decide +kernel
theorem dX7_isWriter_39 : decode cX7_isWriter 39 = .ok (.ireturn, 1) := by decide +kernel
theorem dX7_layWriters_0 : decode cX7_layWriters 0 = .ok (.aload_n 0, 1) := by decide +kernel
theorem dX7_layWriters_1 : decode cX7_layWriters 1 = .ok (.iconst 0, 1) := by decide +kernel
theorem dX7_layWriters_2 : decode cX7_layWriters 2 = .ok (.putfield 166, 3) := by decide +kernel
theorem dX7_layWriters_5 : decode cX7_layWriters 5 = .ok (.iconst 0, 1) := by decide +kernel
theorem dX7_layWriters_6 : decode cX7_layWriters 6 = .ok (.istore_n 2, 1) := by decide +kernel
theorem dX7_layWriters_7 : decode cX7_layWriters 7 = .ok (.aload_n 0, 1) := by decide +kernel
theorem dX7_layWriters_8 : decode cX7_layWriters 8 = .ok (.getfield 166, 3) := by decide +kernel
theorem dX7_layWriters_11 : decode cX7_layWriters 11 = .ok (.iconst 4, 1) := by decide +kernel
theorem dX7_layWriters_12 : decode cX7_layWriters 12 = .ok (.if_icmp .ge 111, 3) := by decide +kernel
theorem dX7_layWriters_15 : decode cX7_layWriters 15 = .ok (.iload_n 2, 1) := by decide +kernel
theorem dX7_layWriters_16 : decode cX7_layWriters 16 = .ok (.iconst (-1), 1) := by decide +kernel
theorem dX7_layWriters_17 : decode cX7_layWriters 17 = .ok (.if_icmp .eq 106, 3) := by decide +kernel
theorem dX7_layWriters_20 : decode cX7_layWriters 20 = .ok (.iconst (-1), 1) := by decide +kernel
theorem dX7_layWriters_21 : decode cX7_layWriters 21 = .ok (.istore_n 2, 1) := by decide +kernel
theorem dX7_layWriters_22 : decode cX7_layWriters 22 = .ok (.iconst 0, 1) := by decide +kernel
theorem dX7_layWriters_23 : decode cX7_layWriters 23 = .ok (.istore_n 3, 1) := by decide +kernel
theorem dX7_layWriters_24 : decode cX7_layWriters 24 = .ok (.iload_n 3, 1) := by decide +kernel
theorem dX7_layWriters_25 : decode cX7_layWriters 25 = .ok (.aload_n 0, 1) := by decide +kernel
theorem dX7_layWriters_26 : decode cX7_layWriters 26 = .ok (.getfield 7, 3) := by decide +kernel
theorem dX7_layWriters_29 : decode cX7_layWriters 29 = .ok (.iconst 0, 1) := by decide +kernel
theorem dX7_layWriters_30 : decode cX7_layWriters 30 = .ok (.iaload, 1) := by decide +kernel
theorem dX7_layWriters_31 : decode cX7_layWriters 31 = .ok (.if_icmp .ge 64, 3) := by decide +kernel
theorem dX7_layWriters_34 : decode cX7_layWriters 34 = .ok (.aload_n 0, 1) := by decide +kernel
theorem dX7_layWriters_35 : decode cX7_layWriters 35 = .ok (.iload_n 1, 1) := by decide +kernel
theorem dX7_layWriters_36 : decode cX7_layWriters 36 = .ok (.iload_n 3, 1) := by decide +kernel
theorem dX7_layWriters_37 : decode cX7_layWriters 37 = .ok (.invokevirtual 163, 3) := by decide +kernel
theorem dX7_layWriters_40 : decode cX7_layWriters 40 = .ok (.ifCond .le 15, 3) := by decide +kernel
theorem dX7_layWriters_43 : decode cX7_layWriters 43 = .ok (.aload_n 0, 1) := by decide +kernel
theorem dX7_layWriters_44 : decode cX7_layWriters 44 = .ok (.iload_n 3, 1) := by decide +kernel
theorem dX7_layWriters_45 : decode cX7_layWriters 45 = .ok (.invokevirtual 169, 3) := by decide +kernel
theorem dX7_layWriters_48 : decode cX7_layWriters 48 = .ok (.ifCond .ne 7, 3) := by decide +kernel
theorem dX7_layWriters_51 : decode cX7_layWriters 51 = .ok (.iconst 1, 1) := by decide +kernel
theorem dX7_layWriters_52 : decode cX7_layWriters 52 = .ok (.goto 4, 3) := by decide +kernel
theorem dX7_layWriters_55 : decode cX7_layWriters 55 = .ok (.iconst 0, 1) := by decide +kernel
theorem dX7_layWriters_56 : decode cX7_layWriters 56 = .ok (.istore 4, 2) := by decide +kernel
theorem dX7_layWriters_58 : decode cX7_layWriters 58 = .ok (.iload 4, 2) := by decide +kernel
theorem dX7_layWriters_60 : decode cX7_layWriters 60 = .ok (.ifCond .eq 27, 3) := by decide +kernel
theorem dX7_layWriters_63 : decode cX7_layWriters 63 = .ok (.iload_n 2, 1) := by decide +kernel
theorem dX7_layWriters_64 : decode cX7_layWriters 64 = .ok (.iconst (-1), 1) := by decide +kernel
theorem dX7_layWriters_65 : decode cX7_layWriters 65 = .ok (.if_icmp .eq 18, 3) := by decide +kernel
theorem dX7_layWriters_68 : decode cX7_layWriters 68 = .ok (.aload_n 0, 1) := by decide +kernel
theorem dX7_layWriters_69 : decode cX7_layWriters 69 = .ok (.iload_n 1, 1) := by decide +kernel
theorem dX7_layWriters_70 : decode cX7_layWriters 70 = .ok (.iload_n 3, 1) := by decide +kernel
theorem dX7_layWriters_71 : decode cX7_layWriters 71 = .ok (.invokevirtual 163, 3) := by decide +kernel
theorem dX7_layWriters_74 : decode cX7_layWriters 74 = .ok (.aload_n 0, 1) := by decide +kernel
theorem dX7_layWriters_75 : decode cX7_layWriters 75 = .ok (.iload_n 1, 1) := by decide +kernel
theorem dX7_layWriters_76 : decode cX7_layWriters 76 = .ok (.iload_n 2, 1) := by decide +kernel
theorem dX7_layWriters_77 : decode cX7_layWriters 77 = .ok (.invokevirtual 163, 3) := by decide +kernel
theorem dX7_layWriters_80 : decode cX7_layWriters 80 = .ok (.if_icmp .le 7, 3) := by decide +kernel
theorem dX7_layWriters_83 : decode cX7_layWriters 83 = .ok (.iload_n 3, 1) := by decide +kernel
theorem dX7_layWriters_84 : decode cX7_layWriters 84 = .ok (.goto 4, 3) := by decide +kernel
theorem dX7_layWriters_87 : decode cX7_layWriters 87 = .ok (.iload_n 2, 1) := by decide +kernel
theorem dX7_layWriters_88 : decode cX7_layWriters 88 = .ok (.istore_n 2, 1) := by decide +kernel
theorem dX7_layWriters_89 : decode cX7_layWriters 89 = .ok (.iinc 3 1, 3) := by decide +kernel
theorem dX7_layWriters_92 : decode cX7_layWriters 92 = .ok (.goto (-68), 3) := by decide +kernel
theorem dX7_layWriters_95 : decode cX7_layWriters 95 = .ok (.iload_n 2, 1) := by decide +kernel
theorem dX7_layWriters_96 : decode cX7_layWriters 96 = .ok (.iconst (-1), 1) := by decide +kernel
theorem dX7_layWriters_97 : decode cX7_layWriters 97 = .ok (.if_icmp .eq (-90), 3) := by decide +kernel
theorem dX7_layWriters_100 : decode cX7_layWriters 100 = .ok (.aload_n 0, 1) := by decide +kernel
theorem dX7_layWriters_101 : decode cX7_layWriters 101 = .ok (.getfield 31, 3) := by decide +kernel
theorem dX7_layWriters_104 : decode cX7_layWriters 104 = .ok (.aload_n 0, 1) := by decide +kernel
theorem dX7_layWriters_105 : decode cX7_layWriters 105 = .ok (.getfield 166, 3) := by decide +kernel
theorem dX7_layWriters_108 : decode cX7_layWriters 108 = .ok (.iload_n 2, 1) := by decide +kernel
theorem dX7_layWriters_109 : decode cX7_layWriters 109 = .ok (.iastore, 1) := by decide +kernel
theorem dX7_layWriters_110 : decode cX7_layWriters 110 = .ok (.aload_n 0, 1) := by decide +kernel
theorem dX7_layWriters_111 : decode cX7_layWriters 111 = .ok (.dup, 1) := by decide +kernel
theorem dX7_layWriters_112 : decode cX7_layWriters 112 = .ok (.getfield 166, 3) := by decide +kernel
theorem dX7_layWriters_115 : decode cX7_layWriters 115 = .ok (.iconst 1, 1) := by decide +kernel
theorem dX7_layWriters_116 : decode cX7_layWriters 116 = .ok (.iadd, 1) := by decide +kernel
theorem dX7_layWriters_117 : decode cX7_layWriters 117 = .ok (.putfield 166, 3) := by decide +kernel
theorem dX7_layWriters_120 : decode cX7_layWriters 120 = .ok (.goto (-113), 3) := by decide +kernel
theorem dX7_layWriters_123 : decode cX7_layWriters 123 = .ok (.iconst 0, 1) := by decide +kernel
theorem dX7_layWriters_124 : decode cX7_layWriters 124 = .ok (.istore_n 3, 1) := by decide +kernel
theorem dX7_layWriters_125 : decode cX7_layWriters 125 = .ok (.iload_n 3, 1) := by decide +kernel
theorem dX7_layWriters_126 : decode cX7_layWriters 126 = .ok (.aload_n 0, 1) := by decide +kernel
theorem dX7_layWriters_127 : decode cX7_layWriters 127 = .ok (.getfield 166, 3) := by decide +kernel
theorem dX7_layWriters_130 : decode cX7_layWriters 130 = .ok (.aload_n 0, 1) := by decide +kernel
theorem dX7_layWriters_131 : decode cX7_layWriters 131 = .ok (.getfield 166, 3) := by decide +kernel
theorem dX7_layWriters_134 : decode cX7_layWriters 134 = .ok (.imul, 1) := by decide +kernel
theorem dX7_layWriters_135 : decode cX7_layWriters 135 = .ok (.if_icmp .ge 83, 3) := by decide +kernel
theorem dX7_layWriters_138 : decode cX7_layWriters 138 = .ok (.iload_n 3, 1) := by decide +kernel
theorem dX7_layWriters_139 : decode cX7_layWriters 139 = .ok (.aload_n 0, 1) := by decide +kernel
theorem dX7_layWriters_140 : decode cX7_layWriters 140 = .ok (.getfield 166, 3) := by decide +kernel
theorem dX7_layWriters_143 : decode cX7_layWriters 143 = .ok (.irem, 1) := by decide +kernel
theorem dX7_layWriters_144 : decode cX7_layWriters 144 = .ok (.istore 4, 2) := by decide +kernel
theorem dX7_layWriters_146 : decode cX7_layWriters 146 = .ok (.iload 4, 2) := by decide +kernel
theorem dX7_layWriters_148 : decode cX7_layWriters 148 = .ok (.iconst 1, 1) := by decide +kernel
theorem dX7_layWriters_149 : decode cX7_layWriters 149 = .ok (.iadd, 1) := by decide +kernel
theorem dX7_layWriters_150 : decode cX7_layWriters 150 = .ok (.aload_n 0, 1) := by decide +kernel
theorem dX7_layWriters_151 : decode cX7_layWriters 151 = .ok (.getfield 166, 3) := by decide +kernel
theorem dX7_layWriters_154 : decode cX7_layWriters 154 = .ok (.if_icmp .ge 58, 3) := by decide +kernel
theorem dX7_layWriters_157 : decode cX7_layWriters 157 = .ok (.aload_n 0, 1) := by decide +kernel
theorem dX7_layWriters_158 : decode cX7_layWriters 158 = .ok (.getfield 31, 3) := by decide +kernel
theorem dX7_layWriters_161 : decode cX7_layWriters 161 = .ok (.iload 4, 2) := by decide +kernel
theorem dX7_layWriters_163 : decode cX7_layWriters 163 = .ok (.iaload, 1) := by decide +kernel
theorem dX7_layWriters_164 : decode cX7_layWriters 164 = .ok (.aload_n 0, 1) := by decide +kernel
theorem dX7_layWriters_165 : decode cX7_layWriters 165 = .ok (.getfield 31, 3) := by decide +kernel
theorem dX7_layWriters_168 : decode cX7_layWriters 168 = .ok (.iload 4, 2) := by decide +kernel
theorem dX7_layWriters_170 : decode cX7_layWriters 170 = .ok (.iconst 1, 1) := by decide +kernel
theorem dX7_layWriters_171 : decode cX7_layWriters 171 = .ok (.iadd, 1) := by decide +kernel
theorem dX7_layWriters_172 : decode cX7_layWriters 172 = .ok (.iaload, 1) := by decide +kernel
theorem dX7_layWriters_173 : decode cX7_layWriters 173 = .ok (.if_icmp .le 39, 3) := by decide +kernel
theorem dX7_layWriters_176 : decode cX7_layWriters 176 = .ok (.aload_n 0, 1) := by decide +kernel
theorem dX7_layWriters_177 : decode cX7_layWriters 177 = .ok (.getfield 31, 3) := by decide +kernel
theorem dX7_layWriters_180 : decode cX7_layWriters 180 = .ok (.iload 4, 2) := by decide +kernel
theorem dX7_layWriters_182 : decode cX7_layWriters 182 = .ok (.iaload, 1) := by decide +kernel
theorem dX7_layWriters_183 : decode cX7_layWriters 183 = .ok (.istore 5, 2) := by decide +kernel
theorem dX7_layWriters_185 : decode cX7_layWriters 185 = .ok (.aload_n 0, 1) := by decide +kernel
theorem dX7_layWriters_186 : decode cX7_layWriters 186 = .ok (.getfield 31, 3) := by decide +kernel
theorem dX7_layWriters_189 : decode cX7_layWriters 189 = .ok (.iload 4, 2) := by decide +kernel
theorem dX7_layWriters_191 : decode cX7_layWriters 191 = .ok (.aload_n 0, 1) := by decide +kernel
theorem dX7_layWriters_192 : decode cX7_layWriters 192 = .ok (.getfield 31, 3) := by decide +kernel
theorem dX7_layWriters_195 : decode cX7_layWriters 195 = .ok (.iload 4, 2) := by decide +kernel
theorem dX7_layWriters_197 : decode cX7_layWriters 197 = .ok (.iconst 1, 1) := by decide +kernel
theorem dX7_layWriters_198 : decode cX7_layWriters 198 = .ok (.iadd, 1) := by decide +kernel
theorem dX7_layWriters_199 : decode cX7_layWriters 199 = .ok (.iaload, 1) := by decide +kernel
theorem dX7_layWriters_200 : decode cX7_layWriters 200 = .ok (.iastore, 1) := by decide +kernel
theorem dX7_layWriters_201 : decode cX7_layWriters 201 = .ok (.aload_n 0, 1) := by decide +kernel
theorem dX7_layWriters_202 : decode cX7_layWriters 202 = .ok (.getfield 31, 3) := by decide +kernel
theorem dX7_layWriters_205 : decode cX7_layWriters 205 = .ok (.iload 4, 2) := by decide +kernel
theorem dX7_layWriters_207 : decode cX7_layWriters 207 = .ok (.iconst 1, 1) := by decide +kernel
theorem dX7_layWriters_208 : decode cX7_layWriters 208 = .ok (.iadd, 1) := by decide +kernel
theorem dX7_layWriters_209 : decode cX7_layWriters 209 = .ok (.iload 5, 2) := by decide +kernel
theorem dX7_layWriters_211 : decode cX7_layWriters 211 = .ok (.iastore, 1) := by decide +kernel
theorem dX7_layWriters_212 : decode cX7_layWriters 212 = .ok (.iinc 3 1, 3) := by decide +kernel
theorem dX7_layWriters_215 : decode cX7_layWriters 215 = .ok (.goto (-90), 3) := by decide +kernel
theorem dX7_layWriters_218 : decode cX7_layWriters 218 = .ok (.return_, 1) := by decide +kernel
theorem dX7_dispute_0 : decode cX7_dispute 0 = .ok (.aload_n 0, 1) := by decide +kernel
theorem dX7_dispute_1 : decode cX7_dispute 1 = .ok (.iconst 0, 1) := by decide +kernel
theorem dX7_dispute_2 : decode cX7_dispute 2 = .ok (.putfield 40, 3) := by decide +kernel
theorem dX7_dispute_5 : decode cX7_dispute 5 = .ok (.aload_n 0, 1) := by decide +kernel
theorem dX7_dispute_6 : decode cX7_dispute 6 = .ok (.iload_n 1, 1) := by decide +kernel
theorem dX7_dispute_7 : decode cX7_dispute 7 = .ok (.invokevirtual 77, 3) := by decide +kernel
theorem dX7_dispute_10 : decode cX7_dispute 10 = .ok (.ifCond .eq 11, 3) := by decide +kernel
theorem dX7_dispute_13 : decode cX7_dispute 13 = .ok (.aload_n 0, 1) := by decide +kernel
theorem dX7_dispute_14 : decode cX7_dispute 14 = .ok (.iload_n 2, 1) := by decide +kernel
theorem dX7_dispute_15 : decode cX7_dispute 15 = .ok (.invokevirtual 65, 3) := by decide +kernel
theorem dX7_dispute_18 : decode cX7_dispute 18 = .ok (.ifCond .ne 9, 3) := by decide +kernel
theorem dX7_dispute_21 : decode cX7_dispute 21 = .ok (.aload_n 0, 1) := by decide +kernel
theorem dX7_dispute_22 : decode cX7_dispute 22 = .ok (.iconst 1, 1) := by decide +kernel
theorem dX7_dispute_23 : decode cX7_dispute 23 = .ok (.invokevirtual 55, 3) := by decide +kernel
theorem dX7_dispute_26 : decode cX7_dispute 26 = .ok (.ireturn, 1) := by decide +kernel
theorem dX7_dispute_27 : decode cX7_dispute 27 = .ok (.aload_n 0, 1) := by decide +kernel
theorem dX7_dispute_28 : decode cX7_dispute 28 = .ok (.iload_n 1, 1) := by decide +kernel
theorem dX7_dispute_29 : decode cX7_dispute 29 = .ok (.iload_n 2, 1) := by decide +kernel
theorem dX7_dispute_30 : decode cX7_dispute 30 = .ok (.invokevirtual 172, 3) := by decide +kernel
theorem dX7_dispute_33 : decode cX7_dispute 33 = .ok (.ifCond .ne 9, 3) := by decide +kernel
theorem dX7_dispute_36 : decode cX7_dispute 36 = .ok (.aload_n 0, 1) := by decide +kernel
theorem dX7_dispute_37 : decode cX7_dispute 37 = .ok (.iconst 2, 1) := by decide +kernel
theorem dX7_dispute_38 : decode cX7_dispute 38 = .ok (.invokevirtual 55, 3) := by decide +kernel
theorem dX7_dispute_41 : decode cX7_dispute 41 = .ok (.ireturn, 1) := by decide +kernel
theorem dX7_dispute_42 : decode cX7_dispute 42 = .ok (.aload_n 0, 1) := by decide +kernel
theorem dX7_dispute_43 : decode cX7_dispute 43 = .ok (.invokevirtual 58, 3) := by decide +kernel
theorem dX7_dispute_46 : decode cX7_dispute 46 = .ok (.aload_n 0, 1) := by decide +kernel
theorem dX7_dispute_47 : decode cX7_dispute 47 = .ok (.iload_n 1, 1) := by decide +kernel
theorem dX7_dispute_48 : decode cX7_dispute 48 = .ok (.invokevirtual 176, 3) := by decide +kernel
theorem dX7_dispute_51 : decode cX7_dispute 51 = .ok (.iconst 0, 1) := by decide +kernel
theorem dX7_dispute_52 : decode cX7_dispute 52 = .ok (.istore_n 3, 1) := by decide +kernel
theorem dX7_dispute_53 : decode cX7_dispute 53 = .ok (.iload_n 3, 1) := by decide +kernel
theorem dX7_dispute_54 : decode cX7_dispute 54 = .ok (.bipush 12, 2) := by decide +kernel
theorem dX7_dispute_56 : decode cX7_dispute 56 = .ok (.if_icmp .ge 42, 3) := by decide +kernel
theorem dX7_dispute_59 : decode cX7_dispute 59 = .ok (.aload_n 0, 1) := by decide +kernel
theorem dX7_dispute_60 : decode cX7_dispute 60 = .ok (.getfield 7, 3) := by decide +kernel
theorem dX7_dispute_63 : decode cX7_dispute 63 = .ok (.sipush 426, 3) := by decide +kernel
theorem dX7_dispute_66 : decode cX7_dispute 66 = .ok (.bipush 12, 2) := by decide +kernel
theorem dX7_dispute_68 : decode cX7_dispute 68 = .ok (.iload_n 1, 1) := by decide +kernel
theorem dX7_dispute_69 : decode cX7_dispute 69 = .ok (.imul, 1) := by decide +kernel
theorem dX7_dispute_70 : decode cX7_dispute 70 = .ok (.iadd, 1) := by decide +kernel
theorem dX7_dispute_71 : decode cX7_dispute 71 = .ok (.iload_n 3, 1) := by decide +kernel
theorem dX7_dispute_72 : decode cX7_dispute 72 = .ok (.iadd, 1) := by decide +kernel
theorem dX7_dispute_73 : decode cX7_dispute 73 = .ok (.aload_n 0, 1) := by decide +kernel
theorem dX7_dispute_74 : decode cX7_dispute 74 = .ok (.iload_n 3, 1) := by decide +kernel
theorem dX7_dispute_75 : decode cX7_dispute 75 = .ok (.invokevirtual 169, 3) := by decide +kernel
theorem dX7_dispute_78 : decode cX7_dispute 78 = .ok (.ifCond .eq 12, 3) := by decide +kernel
theorem dX7_dispute_81 : decode cX7_dispute 81 = .ok (.aload_n 0, 1) := by decide +kernel
theorem dX7_dispute_82 : decode cX7_dispute 82 = .ok (.iload_n 1, 1) := by decide +kernel
theorem dX7_dispute_83 : decode cX7_dispute 83 = .ok (.iload_n 3, 1) := by decide +kernel
theorem dX7_dispute_84 : decode cX7_dispute 84 = .ok (.invokevirtual 163, 3) := by decide +kernel
theorem dX7_dispute_87 : decode cX7_dispute 87 = .ok (.goto 4, 3) := by decide +kernel
theorem dX7_dispute_90 : decode cX7_dispute 90 = .ok (.iconst 0, 1) := by decide +kernel
theorem dX7_dispute_91 : decode cX7_dispute 91 = .ok (.iastore, 1) := by decide +kernel
theorem dX7_dispute_92 : decode cX7_dispute 92 = .ok (.iinc 3 1, 3) := by decide +kernel
theorem dX7_dispute_95 : decode cX7_dispute 95 = .ok (.goto (-42), 3) := by decide +kernel
theorem dX7_dispute_98 : decode cX7_dispute 98 = .ok (.aload_n 0, 1) := by decide +kernel
theorem dX7_dispute_99 : decode cX7_dispute 99 = .ok (.getfield 7, 3) := by decide +kernel
theorem dX7_dispute_102 : decode cX7_dispute 102 = .ok (.bipush 86, 2) := by decide +kernel
theorem dX7_dispute_104 : decode cX7_dispute 104 = .ok (.iconst 5, 1) := by decide +kernel
theorem dX7_dispute_105 : decode cX7_dispute 105 = .ok (.iload_n 1, 1) := by decide +kernel
theorem dX7_dispute_106 : decode cX7_dispute 106 = .ok (.imul, 1) := by decide +kernel
theorem dX7_dispute_107 : decode cX7_dispute 107 = .ok (.iadd, 1) := by decide +kernel
theorem dX7_dispute_108 : decode cX7_dispute 108 = .ok (.iconst 3, 1) := by decide +kernel
theorem dX7_dispute_109 : decode cX7_dispute 109 = .ok (.iadd, 1) := by decide +kernel
theorem dX7_dispute_110 : decode cX7_dispute 110 = .ok (.dup2, 1) := by decide +kernel
theorem dX7_dispute_111 : decode cX7_dispute 111 = .ok (.iaload, 1) := by decide +kernel
theorem dX7_dispute_112 : decode cX7_dispute 112 = .ok (.iconst 1, 1) := by decide +kernel
theorem dX7_dispute_113 : decode cX7_dispute 113 = .ok (.iadd, 1) := by decide +kernel
theorem dX7_dispute_114 : decode cX7_dispute 114 = .ok (.iastore, 1) := by decide +kernel
theorem dX7_dispute_115 : decode cX7_dispute 115 = .ok (.aload_n 0, 1) := by decide +kernel
theorem dX7_dispute_116 : decode cX7_dispute 116 = .ok (.getfield 7, 3) := by decide +kernel
theorem dX7_dispute_119 : decode cX7_dispute 119 = .ok (.bipush 6, 2) := by decide +kernel
theorem dX7_dispute_121 : decode cX7_dispute 121 = .ok (.dup2, 1) := by decide +kernel
theorem dX7_dispute_122 : decode cX7_dispute 122 = .ok (.iaload, 1) := by decide +kernel
theorem dX7_dispute_123 : decode cX7_dispute 123 = .ok (.iconst 1, 1) := by decide +kernel
theorem dX7_dispute_124 : decode cX7_dispute 124 = .ok (.iadd, 1) := by decide +kernel
theorem dX7_dispute_125 : decode cX7_dispute 125 = .ok (.iastore, 1) := by decide +kernel
theorem dX7_dispute_126 : decode cX7_dispute 126 = .ok (.aload_n 0, 1) := by decide +kernel
theorem dX7_dispute_127 : decode cX7_dispute 127 = .ok (.iload_n 1, 1) := by decide +kernel
theorem dX7_dispute_128 : decode cX7_dispute 128 = .ok (.iload_n 2, 1) := by decide +kernel
theorem dX7_dispute_129 : decode cX7_dispute 129 = .ok (.invokevirtual 143, 3) := by decide +kernel
theorem dX7_dispute_132 : decode cX7_dispute 132 = .ok (.ireturn, 1) := by decide +kernel
theorem dX7_append_0 : decode cX7_append 0 = .ok (.aload_n 0, 1) := by decide +kernel
theorem dX7_append_1 : decode cX7_append 1 = .ok (.iconst 0, 1) := by decide +kernel
theorem dX7_append_2 : decode cX7_append 2 = .ok (.putfield 40, 3) := by decide +kernel
theorem dX7_append_5 : decode cX7_append 5 = .ok (.iload_n 1, 1) := by decide +kernel
theorem dX7_append_6 : decode cX7_append 6 = .ok (.bipush 33, 2) := by decide +kernel
theorem dX7_append_8 : decode cX7_append 8 = .ok (.bipush 126, 2) := by decide +kernel
theorem dX7_append_10 : decode cX7_append 10 = .ok (.invokestatic 44, 3) := by decide +kernel
theorem dX7_append_13 : decode cX7_append 13 = .ok (.ifCond .ne 9, 3) := by decide +kernel
theorem dX7_append_16 : decode cX7_append 16 = .ok (.aload_n 0, 1) := by decide +kernel
theorem dX7_append_17 : decode cX7_append 17 = .ok (.iconst 1, 1) := by decide +kernel
theorem dX7_append_18 : decode cX7_append 18 = .ok (.invokevirtual 55, 3) := by decide +kernel
theorem dX7_append_21 : decode cX7_append 21 = .ok (.ireturn, 1) := by decide +kernel
theorem dX7_append_22 : decode cX7_append 22 = .ok (.aload_n 0, 1) := by decide +kernel
theorem dX7_append_23 : decode cX7_append 23 = .ok (.getfield 117, 3) := by decide +kernel
theorem dX7_append_26 : decode cX7_append 26 = .ok (.bipush 60, 2) := by decide +kernel
theorem dX7_append_28 : decode cX7_append 28 = .ok (.if_icmp .ne 9, 3) := by decide +kernel
theorem dX7_append_31 : decode cX7_append 31 = .ok (.aload_n 0, 1) := by decide +kernel
theorem dX7_append_32 : decode cX7_append 32 = .ok (.iconst 2, 1) := by decide +kernel
theorem dX7_append_33 : decode cX7_append 33 = .ok (.invokevirtual 55, 3) := by decide +kernel
theorem dX7_append_36 : decode cX7_append 36 = .ok (.ireturn, 1) := by decide +kernel
theorem dX7_append_37 : decode cX7_append 37 = .ok (.aload_n 0, 1) := by decide +kernel
theorem dX7_append_38 : decode cX7_append 38 = .ok (.getfield 19, 3) := by decide +kernel
theorem dX7_append_41 : decode cX7_append 41 = .ok (.aload_n 0, 1) := by decide +kernel
theorem dX7_append_42 : decode cX7_append 42 = .ok (.getfield 117, 3) := by decide +kernel
theorem dX7_append_45 : decode cX7_append 45 = .ok (.iload_n 1, 1) := by decide +kernel
theorem dX7_append_46 : decode cX7_append 46 = .ok (.iastore, 1) := by decide +kernel
theorem dX7_append_47 : decode cX7_append 47 = .ok (.aload_n 0, 1) := by decide +kernel
theorem dX7_append_48 : decode cX7_append 48 = .ok (.dup, 1) := by decide +kernel
theorem dX7_append_49 : decode cX7_append 49 = .ok (.getfield 117, 3) := by decide +kernel
theorem dX7_append_52 : decode cX7_append 52 = .ok (.iconst 1, 1) := by decide +kernel
theorem dX7_append_53 : decode cX7_append 53 = .ok (.iadd, 1) := by decide +kernel
theorem dX7_append_54 : decode cX7_append 54 = .ok (.putfield 117, 3) := by decide +kernel
theorem dX7_append_57 : decode cX7_append 57 = .ok (.aload_n 0, 1) := by decide +kernel
theorem dX7_append_58 : decode cX7_append 58 = .ok (.getfield 117, 3) := by decide +kernel
theorem dX7_append_61 : decode cX7_append 61 = .ok (.ireturn, 1) := by decide +kernel
theorem dX7_clearBuffer_0 : decode cX7_clearBuffer 0 = .ok (.aload_n 0, 1) := by decide +kernel
theorem dX7_clearBuffer_1 : decode cX7_clearBuffer 1 = .ok (.iconst 0, 1) := by decide +kernel
theorem dX7_clearBuffer_2 : decode cX7_clearBuffer 2 = .ok (.putfield 40, 3) := by decide +kernel
theorem dX7_clearBuffer_5 : decode cX7_clearBuffer 5 = .ok (.aload_n 0, 1) := by decide +kernel
theorem dX7_clearBuffer_6 : decode cX7_clearBuffer 6 = .ok (.getfield 117, 3) := by decide +kernel
theorem dX7_clearBuffer_9 : decode cX7_clearBuffer 9 = .ok (.istore_n 1, 1) := by decide +kernel
theorem dX7_clearBuffer_10 : decode cX7_clearBuffer 10 = .ok (.aload_n 0, 1) := by decide +kernel
theorem dX7_clearBuffer_11 : decode cX7_clearBuffer 11 = .ok (.iconst 0, 1) := by decide +kernel
theorem dX7_clearBuffer_12 : decode cX7_clearBuffer 12 = .ok (.putfield 117, 3) := by decide +kernel
theorem dX7_clearBuffer_15 : decode cX7_clearBuffer 15 = .ok (.iload_n 1, 1) := by decide +kernel
theorem dX7_clearBuffer_16 : decode cX7_clearBuffer 16 = .ok (.ireturn, 1) := by decide +kernel
theorem dX7_firstError_0 : decode cX7_firstError 0 = .ok (.aload_n 0, 1) := by decide +kernel
theorem dX7_firstError_1 : decode cX7_firstError 1 = .ok (.iconst 0, 1) := by decide +kernel
theorem dX7_firstError_2 : decode cX7_firstError 2 = .ok (.putfield 40, 3) := by decide +kernel
theorem dX7_firstError_5 : decode cX7_firstError 5 = .ok (.aload_n 0, 1) := by decide +kernel
theorem dX7_firstError_6 : decode cX7_firstError 6 = .ok (.invokevirtual 123, 3) := by decide +kernel
theorem dX7_firstError_9 : decode cX7_firstError 9 = .ok (.ireturn, 1) := by decide +kernel
theorem dX7_undo_0 : decode cX7_undo 0 = .ok (.aload_n 0, 1) := by decide +kernel
theorem dX7_undo_1 : decode cX7_undo 1 = .ok (.iconst 0, 1) := by decide +kernel
theorem dX7_undo_2 : decode cX7_undo 2 = .ok (.putfield 40, 3) := by decide +kernel
theorem dX7_undo_5 : decode cX7_undo 5 = .ok (.aload_n 0, 1) := by decide +kernel
theorem dX7_undo_6 : decode cX7_undo 6 = .ok (.getfield 48, 3) := by decide +kernel
theorem dX7_undo_9 : decode cX7_undo 9 = .ok (.ifCond .ne 9, 3) := by decide +kernel
theorem dX7_undo_12 : decode cX7_undo 12 = .ok (.aload_n 0, 1) := by decide +kernel
theorem dX7_undo_13 : decode cX7_undo 13 = .ok (.iconst 1, 1) := by decide +kernel
theorem dX7_undo_14 : decode cX7_undo 14 = .ok (.invokevirtual 55, 3) := by decide +kernel
theorem dX7_undo_17 : decode cX7_undo 17 = .ok (.ireturn, 1) := by decide +kernel
theorem dX7_undo_18 : decode cX7_undo 18 = .ok (.aload_n 0, 1) := by decide +kernel
theorem dX7_undo_19 : decode cX7_undo 19 = .ok (.dup, 1) := by decide +kernel
theorem dX7_undo_20 : decode cX7_undo 20 = .ok (.getfield 48, 3) := by decide +kernel
theorem dX7_undo_23 : decode cX7_undo 23 = .ok (.iconst 1, 1) := by decide +kernel
theorem dX7_undo_24 : decode cX7_undo 24 = .ok (.isub, 1) := by decide +kernel
theorem dX7_undo_25 : decode cX7_undo 25 = .ok (.putfield 48, 3) := by decide +kernel
theorem dX7_undo_28 : decode cX7_undo 28 = .ok (.iconst 0, 1) := by decide +kernel
theorem dX7_undo_29 : decode cX7_undo 29 = .ok (.istore_n 1, 1) := by decide +kernel
theorem dX7_undo_30 : decode cX7_undo 30 = .ok (.iload_n 1, 1) := by decide +kernel
theorem dX7_undo_31 : decode cX7_undo 31 = .ok (.sipush 906, 3) := by decide +kernel
theorem dX7_undo_34 : decode cX7_undo 34 = .ok (.if_icmp .ge 30, 3) := by decide +kernel
theorem dX7_undo_37 : decode cX7_undo 37 = .ok (.aload_n 0, 1) := by decide +kernel
theorem dX7_undo_38 : decode cX7_undo 38 = .ok (.getfield 7, 3) := by decide +kernel
theorem dX7_undo_41 : decode cX7_undo 41 = .ok (.iload_n 1, 1) := by decide +kernel
theorem dX7_undo_42 : decode cX7_undo 42 = .ok (.aload_n 0, 1) := by decide +kernel
theorem dX7_undo_43 : decode cX7_undo 43 = .ok (.getfield 16, 3) := by decide +kernel
theorem dX7_undo_46 : decode cX7_undo 46 = .ok (.sipush 906, 3) := by decide +kernel
theorem dX7_undo_49 : decode cX7_undo 49 = .ok (.aload_n 0, 1) := by decide +kernel
theorem dX7_undo_50 : decode cX7_undo 50 = .ok (.getfield 48, 3) := by decide +kernel
theorem dX7_undo_53 : decode cX7_undo 53 = .ok (.imul, 1) := by decide +kernel
theorem dX7_undo_54 : decode cX7_undo 54 = .ok (.iload_n 1, 1) := by decide +kernel
theorem dX7_undo_55 : decode cX7_undo 55 = .ok (.iadd, 1) := by decide +kernel
theorem dX7_undo_56 : decode cX7_undo 56 = .ok (.iaload, 1) := by decide +kernel
theorem dX7_undo_57 : decode cX7_undo 57 = .ok (.iastore, 1) := by decide +kernel
theorem dX7_undo_58 : decode cX7_undo 58 = .ok (.iinc 1 1, 3) := by decide +kernel
theorem dX7_undo_61 : decode cX7_undo 61 = .ok (.goto (-31), 3) := by decide +kernel
theorem dX7_undo_64 : decode cX7_undo 64 = .ok (.aload_n 0, 1) := by decide +kernel
theorem dX7_undo_65 : decode cX7_undo 65 = .ok (.getfield 48, 3) := by decide +kernel
theorem dX7_undo_68 : decode cX7_undo 68 = .ok (.ireturn, 1) := by decide +kernel
theorem dX7_owns_0 : decode cX7_owns 0 = .ok (.iconst 0, 1) := by decide +kernel
theorem dX7_owns_1 : decode cX7_owns 1 = .ok (.istore_n 2, 1) := by decide +kernel
theorem dX7_owns_2 : decode cX7_owns 2 = .ok (.iconst 0, 1) := by decide +kernel
theorem dX7_owns_3 : decode cX7_owns 3 = .ok (.istore_n 3, 1) := by decide +kernel
theorem dX7_owns_4 : decode cX7_owns 4 = .ok (.iload_n 3, 1) := by decide +kernel
theorem dX7_owns_5 : decode cX7_owns 5 = .ok (.aload_n 0, 1) := by decide +kernel
theorem dX7_owns_6 : decode cX7_owns 6 = .ok (.getfield 7, 3) := by decide +kernel
theorem dX7_owns_9 : decode cX7_owns 9 = .ok (.iconst 0, 1) := by decide +kernel
theorem dX7_owns_10 : decode cX7_owns 10 = .ok (.iaload, 1) := by decide +kernel
theorem dX7_owns_11 : decode cX7_owns 11 = .ok (.if_icmp .ge 27, 3) := by decide +kernel
theorem dX7_owns_14 : decode cX7_owns 14 = .ok (.iload_n 2, 1) := by decide +kernel
theorem dX7_owns_15 : decode cX7_owns 15 = .ok (.aload_n 0, 1) := by decide +kernel
theorem dX7_owns_16 : decode cX7_owns 16 = .ok (.iload_n 3, 1) := by decide +kernel
theorem dX7_owns_17 : decode cX7_owns 17 = .ok (.iconst 3, 1) := by decide +kernel
theorem dX7_owns_18 : decode cX7_owns 18 = .ok (.invokevirtual 61, 3) := by decide +kernel
theorem dX7_owns_21 : decode cX7_owns 21 = .ok (.iload_n 1, 1) := by decide +kernel
theorem dX7_owns_22 : decode cX7_owns 22 = .ok (.if_icmp .ne 7, 3) := by decide +kernel
theorem dX7_owns_25 : decode cX7_owns 25 = .ok (.iconst 1, 1) := by decide +kernel
theorem dX7_owns_26 : decode cX7_owns 26 = .ok (.goto 4, 3) := by decide +kernel
theorem dX7_owns_29 : decode cX7_owns 29 = .ok (.iconst 0, 1) := by decide +kernel
theorem dX7_owns_30 : decode cX7_owns 30 = .ok (.iadd, 1) := by decide +kernel
theorem dX7_owns_31 : decode cX7_owns 31 = .ok (.istore_n 2, 1) := by decide +kernel
theorem dX7_owns_32 : decode cX7_owns 32 = .ok (.iinc 3 1, 3) := by decide +kernel
theorem dX7_owns_35 : decode cX7_owns 35 = .ok (.goto (-31), 3) := by decide +kernel
theorem dX7_owns_38 : decode cX7_owns 38 = .ok (.iload_n 2, 1) := by decide +kernel
theorem dX7_owns_39 : decode cX7_owns 39 = .ok (.ireturn, 1) := by decide +kernel
theorem dX7_wrote_0 : decode cX7_wrote 0 = .ok (.iconst 0, 1) := by decide +kernel
theorem dX7_wrote_1 : decode cX7_wrote 1 = .ok (.istore_n 2, 1) := by decide +kernel
theorem dX7_wrote_2 : decode cX7_wrote 2 = .ok (.iconst 0, 1) := by decide +kernel
theorem dX7_wrote_3 : decode cX7_wrote 3 = .ok (.istore_n 3, 1) := by decide +kernel
theorem dX7_wrote_4 : decode cX7_wrote 4 = .ok (.iload_n 3, 1) := by decide +kernel
theorem dX7_wrote_5 : decode cX7_wrote 5 = .ok (.aload_n 0, 1) := by decide +kernel
theorem dX7_wrote_6 : decode cX7_wrote 6 = .ok (.getfield 7, 3) := by decide +kernel
theorem dX7_wrote_9 : decode cX7_wrote 9 = .ok (.iconst 1, 1) := by decide +kernel
theorem dX7_wrote_10 : decode cX7_wrote 10 = .ok (.iaload, 1) := by decide +kernel
theorem dX7_wrote_11 : decode cX7_wrote 11 = .ok (.if_icmp .ge 18, 3) := by decide +kernel
theorem dX7_wrote_14 : decode cX7_wrote 14 = .ok (.iload_n 2, 1) := by decide +kernel
theorem dX7_wrote_15 : decode cX7_wrote 15 = .ok (.aload_n 0, 1) := by decide +kernel
theorem dX7_wrote_16 : decode cX7_wrote 16 = .ok (.iload_n 3, 1) := by decide +kernel
theorem dX7_wrote_17 : decode cX7_wrote 17 = .ok (.iload_n 1, 1) := by decide +kernel
theorem dX7_wrote_18 : decode cX7_wrote 18 = .ok (.invokevirtual 163, 3) := by decide +kernel
theorem dX7_wrote_21 : decode cX7_wrote 21 = .ok (.iadd, 1) := by decide +kernel
theorem dX7_wrote_22 : decode cX7_wrote 22 = .ok (.istore_n 2, 1) := by decide +kernel
theorem dX7_wrote_23 : decode cX7_wrote 23 = .ok (.iinc 3 1, 3) := by decide +kernel
theorem dX7_wrote_26 : decode cX7_wrote 26 = .ok (.goto (-22), 3) := by decide +kernel
theorem dX7_wrote_29 : decode cX7_wrote 29 = .ok (.iload_n 2, 1) := by decide +kernel
theorem dX7_wrote_30 : decode cX7_wrote 30 = .ok (.ireturn, 1) := by decide +kernel
theorem dX7_placeOf_0 : decode cX7_placeOf 0 = .ok (.iconst 0, 1) := by decide +kernel
theorem dX7_placeOf_1 : decode cX7_placeOf 1 = .ok (.istore_n 2, 1) := by decide +kernel
theorem dX7_placeOf_2 : decode cX7_placeOf 2 = .ok (.iconst 0, 1) := by decide +kernel
theorem dX7_placeOf_3 : decode cX7_placeOf 3 = .ok (.istore_n 3, 1) := by decide +kernel
theorem dX7_placeOf_4 : decode cX7_placeOf 4 = .ok (.iload_n 3, 1) := by decide +kernel
theorem dX7_placeOf_5 : decode cX7_placeOf 5 = .ok (.aload_n 0, 1) := by decide +kernel
theorem dX7_placeOf_6 : decode cX7_placeOf 6 = .ok (.getfield 7, 3) := by decide +kernel
theorem dX7_placeOf_9 : decode cX7_placeOf 9 = .ok (.iconst 0, 1) := by decide +kernel
theorem dX7_placeOf_10 : decode cX7_placeOf 10 = .ok (.iaload, 1) := by decide +kernel
theorem dX7_placeOf_11 : decode cX7_placeOf 11 = .ok (.if_icmp .ge 52, 3) := by decide +kernel
theorem dX7_placeOf_14 : decode cX7_placeOf 14 = .ok (.iload_n 2, 1) := by decide +kernel
theorem dX7_placeOf_15 : decode cX7_placeOf 15 = .ok (.aload_n 0, 1) := by decide +kernel
theorem dX7_placeOf_16 : decode cX7_placeOf 16 = .ok (.iload_n 3, 1) := by decide +kernel
theorem dX7_placeOf_17 : decode cX7_placeOf 17 = .ok (.iconst 0, 1) := by decide +kernel
theorem dX7_placeOf_18 : decode cX7_placeOf 18 = .ok (.invokevirtual 61, 3) := by decide +kernel
theorem dX7_placeOf_21 : decode cX7_placeOf 21 = .ok (.aload_n 0, 1) := by decide +kernel
theorem dX7_placeOf_22 : decode cX7_placeOf 22 = .ok (.iload_n 1, 1) := by decide +kernel
theorem dX7_placeOf_23 : decode cX7_placeOf 23 = .ok (.iconst 0, 1) := by decide +kernel
theorem dX7_placeOf_24 : decode cX7_placeOf 24 = .ok (.invokevirtual 61, 3) := by decide +kernel
theorem dX7_placeOf_27 : decode cX7_placeOf 27 = .ok (.if_icmp .gt 23, 3) := by decide +kernel
theorem dX7_placeOf_30 : decode cX7_placeOf 30 = .ok (.aload_n 0, 1) := by decide +kernel
theorem dX7_placeOf_31 : decode cX7_placeOf 31 = .ok (.iload_n 3, 1) := by decide +kernel
theorem dX7_placeOf_32 : decode cX7_placeOf 32 = .ok (.iconst 0, 1) := by decide +kernel
theorem dX7_placeOf_33 : decode cX7_placeOf 33 = .ok (.invokevirtual 61, 3) := by decide +kernel
theorem dX7_placeOf_36 : decode cX7_placeOf 36 = .ok (.aload_n 0, 1) := by decide +kernel
theorem dX7_placeOf_37 : decode cX7_placeOf 37 = .ok (.iload_n 1, 1) := by decide +kernel
theorem dX7_placeOf_38 : decode cX7_placeOf 38 = .ok (.iconst 0, 1) := by decide +kernel
theorem dX7_placeOf_39 : decode cX7_placeOf 39 = .ok (.invokevirtual 61, 3) := by decide +kernel
theorem dX7_placeOf_42 : decode cX7_placeOf 42 = .ok (.if_icmp .ne 12, 3) := by decide +kernel
theorem dX7_placeOf_45 : decode cX7_placeOf 45 = .ok (.iload_n 3, 1) := by decide +kernel
theorem dX7_placeOf_46 : decode cX7_placeOf 46 = .ok (.iload_n 1, 1) := by decide +kernel
theorem dX7_placeOf_47 : decode cX7_placeOf 47 = .ok (.if_icmp .ge 7, 3) := by decide +kernel
theorem dX7_placeOf_50 : decode cX7_placeOf 50 = .ok (.iconst 1, 1) := by decide +kernel
theorem dX7_placeOf_51 : decode cX7_placeOf 51 = .ok (.goto 4, 3) := by decide +kernel
theorem dX7_placeOf_54 : decode cX7_placeOf 54 = .ok (.iconst 0, 1) := by decide +kernel
theorem dX7_placeOf_55 : decode cX7_placeOf 55 = .ok (.iadd, 1) := by decide +kernel
theorem dX7_placeOf_56 : decode cX7_placeOf 56 = .ok (.istore_n 2, 1) := by decide +kernel
theorem dX7_placeOf_57 : decode cX7_placeOf 57 = .ok (.iinc 3 1, 3) := by decide +kernel
theorem dX7_placeOf_60 : decode cX7_placeOf 60 = .ok (.goto (-56), 3) := by decide +kernel
theorem dX7_placeOf_63 : decode cX7_placeOf 63 = .ok (.iload_n 2, 1) := by decide +kernel
theorem dX7_placeOf_64 : decode cX7_placeOf 64 = .ok (.ireturn, 1) := by decide +kernel
theorem dX7_penNow_0 : decode cX7_penNow 0 = .ok (.iload_n 2, 1) := by decide +kernel
theorem dX7_penNow_1 : decode cX7_penNow 1 = .ok (.tableswitch 73 0 7 #[47, 47, 47, 47, 47, 54, 60, 67], 47) := by decide +kernel
theorem dX7_penNow_48 : decode cX7_penNow 48 = .ok (.aload_n 0, 1) := by decide +kernel
theorem dX7_penNow_49 : decode cX7_penNow 49 = .ok (.iload_n 1, 1) := by decide +kernel
theorem dX7_penNow_50 : decode cX7_penNow 50 = .ok (.iload_n 2, 1) := by decide +kernel
theorem dX7_penNow_51 : decode cX7_penNow 51 = .ok (.invokevirtual 61, 3) := by decide +kernel
theorem dX7_penNow_54 : decode cX7_penNow 54 = .ok (.ireturn, 1) := by decide +kernel
theorem dX7_penNow_55 : decode cX7_penNow 55 = .ok (.aload_n 0, 1) := by decide +kernel
theorem dX7_penNow_56 : decode cX7_penNow 56 = .ok (.iload_n 1, 1) := by decide +kernel
theorem dX7_penNow_57 : decode cX7_penNow 57 = .ok (.invokevirtual 179, 3) := by decide +kernel
theorem dX7_penNow_60 : decode cX7_penNow 60 = .ok (.ireturn, 1) := by decide +kernel
theorem dX7_penNow_61 : decode cX7_penNow 61 = .ok (.aload_n 0, 1) := by decide +kernel
theorem dX7_penNow_62 : decode cX7_penNow 62 = .ok (.iload_n 1, 1) := by decide +kernel
theorem dX7_penNow_63 : decode cX7_penNow 63 = .ok (.iconst 5, 1) := by decide +kernel
theorem dX7_penNow_64 : decode cX7_penNow 64 = .ok (.invokevirtual 61, 3) := by decide +kernel
theorem dX7_penNow_67 : decode cX7_penNow 67 = .ok (.ireturn, 1) := by decide +kernel
theorem dX7_penNow_68 : decode cX7_penNow 68 = .ok (.aload_n 0, 1) := by decide +kernel
theorem dX7_penNow_69 : decode cX7_penNow 69 = .ok (.iload_n 1, 1) := by decide +kernel
theorem dX7_penNow_70 : decode cX7_penNow 70 = .ok (.invokevirtual 182, 3) := by decide +kernel
theorem dX7_penNow_73 : decode cX7_penNow 73 = .ok (.ireturn, 1) := by decide +kernel
theorem dX7_penNow_74 : decode cX7_penNow 74 = .ok (.aload_n 0, 1) := by decide +kernel
theorem dX7_penNow_75 : decode cX7_penNow 75 = .ok (.iload_n 1, 1) := by decide +kernel
theorem dX7_penNow_76 : decode cX7_penNow 76 = .ok (.invokevirtual 185, 3) := by decide +kernel
theorem dX7_penNow_79 : decode cX7_penNow 79 = .ok (.ireturn, 1) := by decide +kernel
theorem dX7_pen_0 : decode cX7_pen 0 = .ok (.aload_n 0, 1) := by decide +kernel
theorem dX7_pen_1 : decode cX7_pen 1 = .ok (.iconst 0, 1) := by decide +kernel
theorem dX7_pen_2 : decode cX7_pen 2 = .ok (.putfield 40, 3) := by decide +kernel
theorem dX7_pen_5 : decode cX7_pen 5 = .ok (.aload_n 0, 1) := by decide +kernel
theorem dX7_pen_6 : decode cX7_pen 6 = .ok (.iload_n 1, 1) := by decide +kernel
theorem dX7_pen_7 : decode cX7_pen 7 = .ok (.invokevirtual 65, 3) := by decide +kernel
theorem dX7_pen_10 : decode cX7_pen 10 = .ok (.ifCond .ne 9, 3) := by decide +kernel
theorem dX7_pen_13 : decode cX7_pen 13 = .ok (.aload_n 0, 1) := by decide +kernel
theorem dX7_pen_14 : decode cX7_pen 14 = .ok (.iconst 1, 1) := by decide +kernel
theorem dX7_pen_15 : decode cX7_pen 15 = .ok (.invokevirtual 55, 3) := by decide +kernel
theorem dX7_pen_18 : decode cX7_pen 18 = .ok (.ireturn, 1) := by decide +kernel
theorem dX7_pen_19 : decode cX7_pen 19 = .ok (.iload_n 2, 1) := by decide +kernel
theorem dX7_pen_20 : decode cX7_pen 20 = .ok (.iconst 0, 1) := by decide +kernel
theorem dX7_pen_21 : decode cX7_pen 21 = .ok (.bipush 8, 2) := by decide +kernel
theorem dX7_pen_23 : decode cX7_pen 23 = .ok (.invokestatic 44, 3) := by decide +kernel
theorem dX7_pen_26 : decode cX7_pen 26 = .ok (.ifCond .eq 12, 3) := by decide +kernel
theorem dX7_pen_29 : decode cX7_pen 29 = .ok (.aload_n 0, 1) := by decide +kernel
theorem dX7_pen_30 : decode cX7_pen 30 = .ok (.iload_n 1, 1) := by decide +kernel
theorem dX7_pen_31 : decode cX7_pen 31 = .ok (.iload_n 2, 1) := by decide +kernel
theorem dX7_pen_32 : decode cX7_pen 32 = .ok (.invokevirtual 188, 3) := by decide +kernel
theorem dX7_pen_35 : decode cX7_pen 35 = .ok (.goto 8, 3) := by decide +kernel
theorem dX7_pen_38 : decode cX7_pen 38 = .ok (.aload_n 0, 1) := by decide +kernel
theorem dX7_pen_39 : decode cX7_pen 39 = .ok (.iconst 2, 1) := by decide +kernel
theorem dX7_pen_40 : decode cX7_pen 40 = .ok (.invokevirtual 55, 3) := by decide +kernel
theorem dX7_pen_43 : decode cX7_pen 43 = .ok (.ireturn, 1) := by decide +kernel
theorem dX7_pensWith_0 : decode cX7_pensWith 0 = .ok (.iconst 0, 1) := by decide +kernel
theorem dX7_pensWith_1 : decode cX7_pensWith 1 = .ok (.istore_n 2, 1) := by decide +kernel
theorem dX7_pensWith_2 : decode cX7_pensWith 2 = .ok (.iconst 0, 1) := by decide +kernel
theorem dX7_pensWith_3 : decode cX7_pensWith 3 = .ok (.istore_n 3, 1) := by decide +kernel
theorem dX7_pensWith_4 : decode cX7_pensWith 4 = .ok (.iload_n 3, 1) := by decide +kernel
theorem dX7_pensWith_5 : decode cX7_pensWith 5 = .ok (.aload_n 0, 1) := by decide +kernel
theorem dX7_pensWith_6 : decode cX7_pensWith 6 = .ok (.getfield 7, 3) := by decide +kernel
theorem dX7_pensWith_9 : decode cX7_pensWith 9 = .ok (.iconst 0, 1) := by decide +kernel
theorem dX7_pensWith_10 : decode cX7_pensWith 10 = .ok (.iaload, 1) := by decide +kernel
theorem dX7_pensWith_11 : decode cX7_pensWith 11 = .ok (.if_icmp .ge 26, 3) := by decide +kernel
theorem dX7_pensWith_14 : decode cX7_pensWith 14 = .ok (.iload_n 2, 1) := by decide +kernel
theorem dX7_pensWith_15 : decode cX7_pensWith 15 = .ok (.aload_n 0, 1) := by decide +kernel
theorem dX7_pensWith_16 : decode cX7_pensWith 16 = .ok (.iload_n 1, 1) := by decide +kernel
theorem dX7_pensWith_17 : decode cX7_pensWith 17 = .ok (.iload_n 3, 1) := by decide +kernel
theorem dX7_pensWith_18 : decode cX7_pensWith 18 = .ok (.invokevirtual 143, 3) := by decide +kernel
theorem dX7_pensWith_21 : decode cX7_pensWith 21 = .ok (.ifCond .le 7, 3) := by decide +kernel
theorem dX7_pensWith_24 : decode cX7_pensWith 24 = .ok (.iconst 1, 1) := by decide +kernel
theorem dX7_pensWith_25 : decode cX7_pensWith 25 = .ok (.goto 4, 3) := by decide +kernel
theorem dX7_pensWith_28 : decode cX7_pensWith 28 = .ok (.iconst 0, 1) := by decide +kernel
theorem dX7_pensWith_29 : decode cX7_pensWith 29 = .ok (.iadd, 1) := by decide +kernel
theorem dX7_pensWith_30 : decode cX7_pensWith 30 = .ok (.istore_n 2, 1) := by decide +kernel
theorem dX7_pensWith_31 : decode cX7_pensWith 31 = .ok (.iinc 3 1, 3) := by decide +kernel
theorem dX7_pensWith_34 : decode cX7_pensWith 34 = .ok (.goto (-30), 3) := by decide +kernel
theorem dX7_pensWith_37 : decode cX7_pensWith 37 = .ok (.iload_n 2, 1) := by decide +kernel
theorem dX7_pensWith_38 : decode cX7_pensWith 38 = .ok (.ireturn, 1) := by decide +kernel
theorem dX7_whoDisputes_0 : decode cX7_whoDisputes 0 = .ok (.iconst 0, 1) := by decide +kernel
theorem dX7_whoDisputes_1 : decode cX7_whoDisputes 1 = .ok (.istore_n 2, 1) := by decide +kernel
theorem dX7_whoDisputes_2 : decode cX7_whoDisputes 2 = .ok (.iconst 0, 1) := by decide +kernel
theorem dX7_whoDisputes_3 : decode cX7_whoDisputes 3 = .ok (.istore_n 3, 1) := by decide +kernel
theorem dX7_whoDisputes_4 : decode cX7_whoDisputes 4 = .ok (.iload_n 3, 1) := by decide +kernel
theorem dX7_whoDisputes_5 : decode cX7_whoDisputes 5 = .ok (.aload_n 0, 1) := by decide +kernel
theorem dX7_whoDisputes_6 : decode cX7_whoDisputes 6 = .ok (.getfield 7, 3) := by decide +kernel
theorem dX7_whoDisputes_9 : decode cX7_whoDisputes 9 = .ok (.iconst 0, 1) := by decide +kernel
theorem dX7_whoDisputes_10 : decode cX7_whoDisputes 10 = .ok (.iaload, 1) := by decide +kernel
theorem dX7_whoDisputes_11 : decode cX7_whoDisputes 11 = .ok (.if_icmp .ge 28, 3) := by decide +kernel
theorem dX7_whoDisputes_14 : decode cX7_whoDisputes 14 = .ok (.iload_n 2, 1) := by decide +kernel
theorem dX7_whoDisputes_15 : decode cX7_whoDisputes 15 = .ok (.aload_n 0, 1) := by decide +kernel
theorem dX7_whoDisputes_16 : decode cX7_whoDisputes 16 = .ok (.iload_n 1, 1) := by decide +kernel
theorem dX7_whoDisputes_17 : decode cX7_whoDisputes 17 = .ok (.iload_n 3, 1) := by decide +kernel
theorem dX7_whoDisputes_18 : decode cX7_whoDisputes 18 = .ok (.invokevirtual 172, 3) := by decide +kernel
theorem dX7_whoDisputes_21 : decode cX7_whoDisputes 21 = .ok (.ifCond .eq 9, 3) := by decide +kernel
theorem dX7_whoDisputes_24 : decode cX7_whoDisputes 24 = .ok (.iconst 1, 1) := by decide +kernel
theorem dX7_whoDisputes_25 : decode cX7_whoDisputes 25 = .ok (.iload_n 3, 1) := by decide +kernel
theorem dX7_whoDisputes_26 : decode cX7_whoDisputes 26 = .ok (.ishl, 1) := by decide +kernel
theorem dX7_whoDisputes_27 : decode cX7_whoDisputes 27 = .ok (.goto 4, 3) := by decide +kernel
theorem dX7_whoDisputes_30 : decode cX7_whoDisputes 30 = .ok (.iconst 0, 1) := by decide +kernel
theorem dX7_whoDisputes_31 : decode cX7_whoDisputes 31 = .ok (.ior, 1) := by decide +kernel
theorem dX7_whoDisputes_32 : decode cX7_whoDisputes 32 = .ok (.istore_n 2, 1) := by decide +kernel
theorem dX7_whoDisputes_33 : decode cX7_whoDisputes 33 = .ok (.iinc 3 1, 3) := by decide +kernel
theorem dX7_whoDisputes_36 : decode cX7_whoDisputes 36 = .ok (.goto (-32), 3) := by decide +kernel
theorem dX7_whoDisputes_39 : decode cX7_whoDisputes 39 = .ok (.iload_n 2, 1) := by decide +kernel
theorem dX7_whoDisputes_40 : decode cX7_whoDisputes 40 = .ok (.ireturn, 1) := by decide +kernel
theorem dX7_pieceNow_0 : decode cX7_pieceNow 0 = .ok (.iload_n 2, 1) := by decide +kernel
theorem dX7_pieceNow_1 : decode cX7_pieceNow 1 = .ok (.tableswitch 89 0 8 #[51, 51, 51, 51, 58, 64, 70, 76, 83], 51) := by decide +kernel
theorem dX7_pieceNow_52 : decode cX7_pieceNow 52 = .ok (.aload_n 0, 1) := by decide +kernel
theorem dX7_pieceNow_53 : decode cX7_pieceNow 53 = .ok (.iload_n 1, 1) := by decide +kernel
theorem dX7_pieceNow_54 : decode cX7_pieceNow 54 = .ok (.iload_n 2, 1) := by decide +kernel
theorem dX7_pieceNow_55 : decode cX7_pieceNow 55 = .ok (.invokevirtual 80, 3) := by decide +kernel
theorem dX7_pieceNow_58 : decode cX7_pieceNow 58 = .ok (.ireturn, 1) := by decide +kernel
theorem dX7_pieceNow_59 : decode cX7_pieceNow 59 = .ok (.aload_n 0, 1) := by decide +kernel
theorem dX7_pieceNow_60 : decode cX7_pieceNow 60 = .ok (.iload_n 1, 1) := by decide +kernel
theorem dX7_pieceNow_61 : decode cX7_pieceNow 61 = .ok (.invokevirtual 83, 3) := by decide +kernel
theorem dX7_pieceNow_64 : decode cX7_pieceNow 64 = .ok (.ireturn, 1) := by decide +kernel
theorem dX7_pieceNow_65 : decode cX7_pieceNow 65 = .ok (.aload_n 0, 1) := by decide +kernel
theorem dX7_pieceNow_66 : decode cX7_pieceNow 66 = .ok (.iload_n 1, 1) := by decide +kernel
theorem dX7_pieceNow_67 : decode cX7_pieceNow 67 = .ok (.invokevirtual 191, 3) := by decide +kernel
theorem dX7_pieceNow_70 : decode cX7_pieceNow 70 = .ok (.ireturn, 1) := by decide +kernel
theorem dX7_pieceNow_71 : decode cX7_pieceNow 71 = .ok (.aload_n 0, 1) := by decide +kernel
theorem dX7_pieceNow_72 : decode cX7_pieceNow 72 = .ok (.iload_n 1, 1) := by decide +kernel
theorem dX7_pieceNow_73 : decode cX7_pieceNow 73 = .ok (.invokevirtual 133, 3) := by decide +kernel
theorem dX7_pieceNow_76 : decode cX7_pieceNow 76 = .ok (.ireturn, 1) := by decide +kernel
theorem dX7_pieceNow_77 : decode cX7_pieceNow 77 = .ok (.aload_n 0, 1) := by decide +kernel
theorem dX7_pieceNow_78 : decode cX7_pieceNow 78 = .ok (.iload_n 1, 1) := by decide +kernel
theorem dX7_pieceNow_79 : decode cX7_pieceNow 79 = .ok (.iconst 4, 1) := by decide +kernel
theorem dX7_pieceNow_80 : decode cX7_pieceNow 80 = .ok (.invokevirtual 80, 3) := by decide +kernel
theorem dX7_pieceNow_83 : decode cX7_pieceNow 83 = .ok (.ireturn, 1) := by decide +kernel
theorem dX7_pieceNow_84 : decode cX7_pieceNow 84 = .ok (.aload_n 0, 1) := by decide +kernel
theorem dX7_pieceNow_85 : decode cX7_pieceNow 85 = .ok (.iload_n 1, 1) := by decide +kernel
theorem dX7_pieceNow_86 : decode cX7_pieceNow 86 = .ok (.invokevirtual 160, 3) := by decide +kernel
theorem dX7_pieceNow_89 : decode cX7_pieceNow 89 = .ok (.ireturn, 1) := by decide +kernel
theorem dX7_pieceNow_90 : decode cX7_pieceNow 90 = .ok (.aload_n 0, 1) := by decide +kernel
theorem dX7_pieceNow_91 : decode cX7_pieceNow 91 = .ok (.iload_n 1, 1) := by decide +kernel
theorem dX7_pieceNow_92 : decode cX7_pieceNow 92 = .ok (.invokevirtual 194, 3) := by decide +kernel
theorem dX7_pieceNow_95 : decode cX7_pieceNow 95 = .ok (.ireturn, 1) := by decide +kernel
theorem dX7_piece_0 : decode cX7_piece 0 = .ok (.aload_n 0, 1) := by decide +kernel
theorem dX7_piece_1 : decode cX7_piece 1 = .ok (.iconst 0, 1) := by decide +kernel
theorem dX7_piece_2 : decode cX7_piece 2 = .ok (.putfield 40, 3) := by decide +kernel
theorem dX7_piece_5 : decode cX7_piece 5 = .ok (.aload_n 0, 1) := by decide +kernel
theorem dX7_piece_6 : decode cX7_piece 6 = .ok (.iload_n 1, 1) := by decide +kernel
theorem dX7_piece_7 : decode cX7_piece 7 = .ok (.invokevirtual 77, 3) := by decide +kernel
theorem dX7_piece_10 : decode cX7_piece 10 = .ok (.ifCond .ne 9, 3) := by decide +kernel
theorem dX7_piece_13 : decode cX7_piece 13 = .ok (.aload_n 0, 1) := by decide +kernel
theorem dX7_piece_14 : decode cX7_piece 14 = .ok (.iconst 1, 1) := by decide +kernel
theorem dX7_piece_15 : decode cX7_piece 15 = .ok (.invokevirtual 55, 3) := by decide +kernel
theorem dX7_piece_18 : decode cX7_piece 18 = .ok (.ireturn, 1) := by decide +kernel
theorem dX7_piece_19 : decode cX7_piece 19 = .ok (.iload_n 2, 1) := by decide +kernel
theorem dX7_piece_20 : decode cX7_piece 20 = .ok (.iconst 0, 1) := by decide +kernel
theorem dX7_piece_21 : decode cX7_piece 21 = .ok (.bipush 9, 2) := by decide +kernel
theorem dX7_piece_23 : decode cX7_piece 23 = .ok (.invokestatic 44, 3) := by decide +kernel
theorem dX7_piece_26 : decode cX7_piece 26 = .ok (.ifCond .eq 12, 3) := by decide +kernel
theorem dX7_piece_29 : decode cX7_piece 29 = .ok (.aload_n 0, 1) := by decide +kernel
theorem dX7_piece_30 : decode cX7_piece 30 = .ok (.iload_n 1, 1) := by decide +kernel
theorem dX7_piece_31 : decode cX7_piece 31 = .ok (.iload_n 2, 1) := by decide +kernel
theorem dX7_piece_32 : decode cX7_piece 32 = .ok (.invokevirtual 197, 3) := by decide +kernel
theorem dX7_piece_35 : decode cX7_piece 35 = .ok (.goto 8, 3) := by decide +kernel
theorem dX7_piece_38 : decode cX7_piece 38 = .ok (.aload_n 0, 1) := by decide +kernel
theorem dX7_piece_39 : decode cX7_piece 39 = .ok (.iconst 2, 1) := by decide +kernel
theorem dX7_piece_40 : decode cX7_piece 40 = .ok (.invokevirtual 55, 3) := by decide +kernel
theorem dX7_piece_43 : decode cX7_piece 43 = .ok (.ireturn, 1) := by decide +kernel
theorem dX7_betweenNow_0 : decode cX7_betweenNow 0 = .ok (.iload_n 3, 1) := by decide +kernel
theorem dX7_betweenNow_1 : decode cX7_betweenNow 1 = .ok (.ifCond .ne 12, 3) := by decide +kernel
theorem dX7_betweenNow_4 : decode cX7_betweenNow 4 = .ok (.aload_n 0, 1) := by decide +kernel
theorem dX7_betweenNow_5 : decode cX7_betweenNow 5 = .ok (.iload_n 1, 1) := by decide +kernel
theorem dX7_betweenNow_6 : decode cX7_betweenNow 6 = .ok (.iload_n 2, 1) := by decide +kernel
theorem dX7_betweenNow_7 : decode cX7_betweenNow 7 = .ok (.invokevirtual 143, 3) := by decide +kernel
theorem dX7_betweenNow_10 : decode cX7_betweenNow 10 = .ok (.goto 32, 3) := by decide +kernel
theorem dX7_betweenNow_13 : decode cX7_betweenNow 13 = .ok (.iload_n 3, 1) := by decide +kernel
theorem dX7_betweenNow_14 : decode cX7_betweenNow 14 = .ok (.iconst 1, 1) := by decide +kernel
theorem dX7_betweenNow_15 : decode cX7_betweenNow 15 = .ok (.if_icmp .ne 12, 3) := by decide +kernel
theorem dX7_betweenNow_18 : decode cX7_betweenNow 18 = .ok (.aload_n 0, 1) := by decide +kernel
theorem dX7_betweenNow_19 : decode cX7_betweenNow 19 = .ok (.iload_n 1, 1) := by decide +kernel
theorem dX7_betweenNow_20 : decode cX7_betweenNow 20 = .ok (.iload_n 2, 1) := by decide +kernel
theorem dX7_betweenNow_21 : decode cX7_betweenNow 21 = .ok (.invokevirtual 163, 3) := by decide +kernel
theorem dX7_betweenNow_24 : decode cX7_betweenNow 24 = .ok (.goto 18, 3) := by decide +kernel
theorem dX7_betweenNow_27 : decode cX7_betweenNow 27 = .ok (.aload_n 0, 1) := by decide +kernel
theorem dX7_betweenNow_28 : decode cX7_betweenNow 28 = .ok (.getfield 7, 3) := by decide +kernel
theorem dX7_betweenNow_31 : decode cX7_betweenNow 31 = .ok (.sipush 666, 3) := by decide +kernel
theorem dX7_betweenNow_34 : decode cX7_betweenNow 34 = .ok (.bipush 12, 2) := by decide +kernel
theorem dX7_betweenNow_36 : decode cX7_betweenNow 36 = .ok (.iload_n 1, 1) := by decide +kernel
theorem dX7_betweenNow_37 : decode cX7_betweenNow 37 = .ok (.imul, 1) := by decide +kernel
theorem dX7_betweenNow_38 : decode cX7_betweenNow 38 = .ok (.iadd, 1) := by decide +kernel
theorem dX7_betweenNow_39 : decode cX7_betweenNow 39 = .ok (.iload_n 2, 1) := by decide +kernel
theorem dX7_betweenNow_40 : decode cX7_betweenNow 40 = .ok (.iadd, 1) := by decide +kernel
theorem dX7_betweenNow_41 : decode cX7_betweenNow 41 = .ok (.iaload, 1) := by decide +kernel
theorem dX7_betweenNow_42 : decode cX7_betweenNow 42 = .ok (.ireturn, 1) := by decide +kernel
theorem dX7_between_0 : decode cX7_between 0 = .ok (.aload_n 0, 1) := by decide +kernel
theorem dX7_between_1 : decode cX7_between 1 = .ok (.iconst 0, 1) := by decide +kernel
theorem dX7_between_2 : decode cX7_between 2 = .ok (.putfield 40, 3) := by decide +kernel
theorem dX7_between_5 : decode cX7_between 5 = .ok (.aload_n 0, 1) := by decide +kernel
theorem dX7_between_6 : decode cX7_between 6 = .ok (.iload_n 1, 1) := by decide +kernel
theorem dX7_between_7 : decode cX7_between 7 = .ok (.invokevirtual 77, 3) := by decide +kernel
theorem dX7_between_10 : decode cX7_between 10 = .ok (.ifCond .eq 11, 3) := by decide +kernel
theorem dX7_between_13 : decode cX7_between 13 = .ok (.aload_n 0, 1) := by decide +kernel
theorem dX7_between_14 : decode cX7_between 14 = .ok (.iload_n 2, 1) := by decide +kernel
theorem dX7_between_15 : decode cX7_between 15 = .ok (.invokevirtual 65, 3) := by decide +kernel
theorem dX7_between_18 : decode cX7_between 18 = .ok (.ifCond .ne 9, 3) := by decide +kernel
theorem dX7_between_21 : decode cX7_between 21 = .ok (.aload_n 0, 1) := by decide +kernel
theorem dX7_between_22 : decode cX7_between 22 = .ok (.iconst 1, 1) := by decide +kernel
theorem dX7_between_23 : decode cX7_between 23 = .ok (.invokevirtual 55, 3) := by decide +kernel
theorem dX7_between_26 : decode cX7_between 26 = .ok (.ireturn, 1) := by decide +kernel
theorem dX7_between_27 : decode cX7_between 27 = .ok (.iload_n 3, 1) := by decide +kernel
theorem dX7_between_28 : decode cX7_between 28 = .ok (.iconst 0, 1) := by decide +kernel
theorem dX7_between_29 : decode cX7_between 29 = .ok (.iconst 2, 1) := by decide +kernel
theorem dX7_between_30 : decode cX7_between 30 = .ok (.invokestatic 44, 3) := by decide +kernel
theorem dX7_between_33 : decode cX7_between 33 = .ok (.ifCond .eq 13, 3) := by decide +kernel
theorem dX7_between_36 : decode cX7_between 36 = .ok (.aload_n 0, 1) := by decide +kernel
theorem dX7_between_37 : decode cX7_between 37 = .ok (.iload_n 1, 1) := by decide +kernel
theorem dX7_between_38 : decode cX7_between 38 = .ok (.iload_n 2, 1) := by decide +kernel
theorem dX7_between_39 : decode cX7_between 39 = .ok (.iload_n 3, 1) := by decide +kernel
theorem dX7_between_40 : decode cX7_between 40 = .ok (.invokevirtual 200, 3) := by decide +kernel
theorem dX7_between_43 : decode cX7_between 43 = .ok (.goto 8, 3) := by decide +kernel
theorem dX7_between_46 : decode cX7_between 46 = .ok (.aload_n 0, 1) := by decide +kernel
theorem dX7_between_47 : decode cX7_between 47 = .ok (.iconst 2, 1) := by decide +kernel
theorem dX7_between_48 : decode cX7_between 48 = .ok (.invokevirtual 55, 3) := by decide +kernel
theorem dX7_between_51 : decode cX7_between 51 = .ok (.ireturn, 1) := by decide +kernel
theorem dX7_sumOf_0 : decode cX7_sumOf 0 = .ok (.iconst 0, 1) := by decide +kernel
theorem dX7_sumOf_1 : decode cX7_sumOf 1 = .ok (.istore_n 2, 1) := by decide +kernel
theorem dX7_sumOf_2 : decode cX7_sumOf 2 = .ok (.iconst 0, 1) := by decide +kernel
theorem dX7_sumOf_3 : decode cX7_sumOf 3 = .ok (.istore_n 3, 1) := by decide +kernel
theorem dX7_sumOf_4 : decode cX7_sumOf 4 = .ok (.iload_n 3, 1) := by decide +kernel
theorem dX7_sumOf_5 : decode cX7_sumOf 5 = .ok (.aload_n 0, 1) := by decide +kernel
theorem dX7_sumOf_6 : decode cX7_sumOf 6 = .ok (.getfield 7, 3) := by decide +kernel
theorem dX7_sumOf_9 : decode cX7_sumOf 9 = .ok (.iconst 0, 1) := by decide +kernel
theorem dX7_sumOf_10 : decode cX7_sumOf 10 = .ok (.iaload, 1) := by decide +kernel
theorem dX7_sumOf_11 : decode cX7_sumOf 11 = .ok (.if_icmp .ge 18, 3) := by decide +kernel
theorem dX7_sumOf_14 : decode cX7_sumOf 14 = .ok (.iload_n 2, 1) := by decide +kernel
theorem dX7_sumOf_15 : decode cX7_sumOf 15 = .ok (.aload_n 0, 1) := by decide +kernel
theorem dX7_sumOf_16 : decode cX7_sumOf 16 = .ok (.iload_n 3, 1) := by decide +kernel
theorem dX7_sumOf_17 : decode cX7_sumOf 17 = .ok (.iload_n 1, 1) := by decide +kernel
theorem dX7_sumOf_18 : decode cX7_sumOf 18 = .ok (.invokevirtual 61, 3) := by decide +kernel
theorem dX7_sumOf_21 : decode cX7_sumOf 21 = .ok (.iadd, 1) := by decide +kernel
theorem dX7_sumOf_22 : decode cX7_sumOf 22 = .ok (.istore_n 2, 1) := by decide +kernel
theorem dX7_sumOf_23 : decode cX7_sumOf 23 = .ok (.iinc 3 1, 3) := by decide +kernel
theorem dX7_sumOf_26 : decode cX7_sumOf 26 = .ok (.goto (-22), 3) := by decide +kernel
theorem dX7_sumOf_29 : decode cX7_sumOf 29 = .ok (.iload_n 2, 1) := by decide +kernel
theorem dX7_sumOf_30 : decode cX7_sumOf 30 = .ok (.ireturn, 1) := by decide +kernel
theorem dX7_inStage_0 : decode cX7_inStage 0 = .ok (.iconst 0, 1) := by decide +kernel
theorem dX7_inStage_1 : decode cX7_inStage 1 = .ok (.istore_n 2, 1) := by decide +kernel
theorem dX7_inStage_2 : decode cX7_inStage 2 = .ok (.iconst 0, 1) := by decide +kernel
theorem dX7_inStage_3 : decode cX7_inStage 3 = .ok (.istore_n 3, 1) := by decide +kernel
theorem dX7_inStage_4 : decode cX7_inStage 4 = .ok (.iload_n 3, 1) := by decide +kernel
theorem dX7_inStage_5 : decode cX7_inStage 5 = .ok (.aload_n 0, 1) := by decide +kernel
theorem dX7_inStage_6 : decode cX7_inStage 6 = .ok (.getfield 7, 3) := by decide +kernel
theorem dX7_inStage_9 : decode cX7_inStage 9 = .ok (.iconst 1, 1) := by decide +kernel
theorem dX7_inStage_10 : decode cX7_inStage 10 = .ok (.iaload, 1) := by decide +kernel
theorem dX7_inStage_11 : decode cX7_inStage 11 = .ok (.if_icmp .ge 27, 3) := by decide +kernel
theorem dX7_inStage_14 : decode cX7_inStage 14 = .ok (.iload_n 2, 1) := by decide +kernel
theorem dX7_inStage_15 : decode cX7_inStage 15 = .ok (.aload_n 0, 1) := by decide +kernel
theorem dX7_inStage_16 : decode cX7_inStage 16 = .ok (.iload_n 3, 1) := by decide +kernel
theorem dX7_inStage_17 : decode cX7_inStage 17 = .ok (.iconst 2, 1) := by decide +kernel
theorem dX7_inStage_18 : decode cX7_inStage 18 = .ok (.invokevirtual 80, 3) := by decide +kernel
theorem dX7_inStage_21 : decode cX7_inStage 21 = .ok (.iload_n 1, 1) := by decide +kernel
theorem dX7_inStage_22 : decode cX7_inStage 22 = .ok (.if_icmp .ne 7, 3) := by decide +kernel
theorem dX7_inStage_25 : decode cX7_inStage 25 = .ok (.iconst 1, 1) := by decide +kernel
theorem dX7_inStage_26 : decode cX7_inStage 26 = .ok (.goto 4, 3) := by decide +kernel
theorem dX7_inStage_29 : decode cX7_inStage 29 = .ok (.iconst 0, 1) := by decide +kernel
theorem dX7_inStage_30 : decode cX7_inStage 30 = .ok (.iadd, 1) := by decide +kernel
theorem dX7_inStage_31 : decode cX7_inStage 31 = .ok (.istore_n 2, 1) := by decide +kernel
theorem dX7_inStage_32 : decode cX7_inStage 32 = .ok (.iinc 3 1, 3) := by decide +kernel
theorem dX7_inStage_35 : decode cX7_inStage 35 = .ok (.goto (-31), 3) := by decide +kernel
theorem dX7_inStage_38 : decode cX7_inStage 38 = .ok (.iload_n 2, 1) := by decide +kernel
theorem dX7_inStage_39 : decode cX7_inStage 39 = .ok (.ireturn, 1) := by decide +kernel
theorem dX7_soldOnes_0 : decode cX7_soldOnes 0 = .ok (.iconst 0, 1) := by decide +kernel
theorem dX7_soldOnes_1 : decode cX7_soldOnes 1 = .ok (.istore_n 1, 1) := by decide +kernel
theorem dX7_soldOnes_2 : decode cX7_soldOnes 2 = .ok (.iconst 0, 1) := by decide +kernel
theorem dX7_soldOnes_3 : decode cX7_soldOnes 3 = .ok (.istore_n 2, 1) := by decide +kernel
theorem dX7_soldOnes_4 : decode cX7_soldOnes 4 = .ok (.iload_n 2, 1) := by decide +kernel
theorem dX7_soldOnes_5 : decode cX7_soldOnes 5 = .ok (.aload_n 0, 1) := by decide +kernel
theorem dX7_soldOnes_6 : decode cX7_soldOnes 6 = .ok (.getfield 7, 3) := by decide +kernel
theorem dX7_soldOnes_9 : decode cX7_soldOnes 9 = .ok (.iconst 0, 1) := by decide +kernel
theorem dX7_soldOnes_10 : decode cX7_soldOnes 10 = .ok (.iaload, 1) := by decide +kernel
theorem dX7_soldOnes_11 : decode cX7_soldOnes 11 = .ok (.if_icmp .ge 27, 3) := by decide +kernel
theorem dX7_soldOnes_14 : decode cX7_soldOnes 14 = .ok (.iload_n 1, 1) := by decide +kernel
theorem dX7_soldOnes_15 : decode cX7_soldOnes 15 = .ok (.aload_n 0, 1) := by decide +kernel
theorem dX7_soldOnes_16 : decode cX7_soldOnes 16 = .ok (.iload_n 2, 1) := by decide +kernel
theorem dX7_soldOnes_17 : decode cX7_soldOnes 17 = .ok (.iconst 3, 1) := by decide +kernel
theorem dX7_soldOnes_18 : decode cX7_soldOnes 18 = .ok (.invokevirtual 61, 3) := by decide +kernel
theorem dX7_soldOnes_21 : decode cX7_soldOnes 21 = .ok (.iload_n 2, 1) := by decide +kernel
theorem dX7_soldOnes_22 : decode cX7_soldOnes 22 = .ok (.if_icmp .ne 7, 3) := by decide +kernel
theorem dX7_soldOnes_25 : decode cX7_soldOnes 25 = .ok (.iconst 0, 1) := by decide +kernel
theorem dX7_soldOnes_26 : decode cX7_soldOnes 26 = .ok (.goto 4, 3) := by decide +kernel
theorem dX7_soldOnes_29 : decode cX7_soldOnes 29 = .ok (.iconst 1, 1) := by decide +kernel
theorem dX7_soldOnes_30 : decode cX7_soldOnes 30 = .ok (.iadd, 1) := by decide +kernel
theorem dX7_soldOnes_31 : decode cX7_soldOnes 31 = .ok (.istore_n 1, 1) := by decide +kernel
theorem dX7_soldOnes_32 : decode cX7_soldOnes 32 = .ok (.iinc 2 1, 3) := by decide +kernel
theorem dX7_soldOnes_35 : decode cX7_soldOnes 35 = .ok (.goto (-31), 3) := by decide +kernel
theorem dX7_soldOnes_38 : decode cX7_soldOnes 38 = .ok (.iload_n 1, 1) := by decide +kernel
theorem dX7_soldOnes_39 : decode cX7_soldOnes 39 = .ok (.ireturn, 1) := by decide +kernel
theorem dX7_counted_0 : decode cX7_counted 0 = .ok (.iload_n 1, 1) := by decide +kernel
theorem dX7_counted_1 : decode cX7_counted 1 = .ok (.tableswitch 154 0 12 #[67, 74, 81, 88, 95, 102, 108, 114, 121, 127, 133, 141, 146], 67) := by decide +kernel
theorem dX7_counted_68 : decode cX7_counted 68 = .ok (.aload_n 0, 1) := by decide +kernel
theorem dX7_counted_69 : decode cX7_counted 69 = .ok (.getfield 7, 3) := by decide +kernel
theorem dX7_counted_72 : decode cX7_counted 72 = .ok (.iconst 0, 1) := by decide +kernel
theorem dX7_counted_73 : decode cX7_counted 73 = .ok (.iaload, 1) := by decide +kernel
theorem dX7_counted_74 : decode cX7_counted 74 = .ok (.ireturn, 1) := by decide +kernel
theorem dX7_counted_75 : decode cX7_counted 75 = .ok (.aload_n 0, 1) := by decide +kernel
theorem dX7_counted_76 : decode cX7_counted 76 = .ok (.getfield 7, 3) := by decide +kernel
theorem dX7_counted_79 : decode cX7_counted 79 = .ok (.iconst 1, 1) := by decide +kernel
theorem dX7_counted_80 : decode cX7_counted 80 = .ok (.iaload, 1) := by decide +kernel
theorem dX7_counted_81 : decode cX7_counted 81 = .ok (.ireturn, 1) := by decide +kernel
theorem dX7_counted_82 : decode cX7_counted 82 = .ok (.aload_n 0, 1) := by decide +kernel
theorem dX7_counted_83 : decode cX7_counted 83 = .ok (.getfield 7, 3) := by decide +kernel
theorem dX7_counted_86 : decode cX7_counted 86 = .ok (.iconst 2, 1) := by decide +kernel
theorem dX7_counted_87 : decode cX7_counted 87 = .ok (.iaload, 1) := by decide +kernel
theorem dX7_counted_88 : decode cX7_counted 88 = .ok (.ireturn, 1) := by decide +kernel
theorem dX7_counted_89 : decode cX7_counted 89 = .ok (.aload_n 0, 1) := by decide +kernel
theorem dX7_counted_90 : decode cX7_counted 90 = .ok (.getfield 7, 3) := by decide +kernel
theorem dX7_counted_93 : decode cX7_counted 93 = .ok (.iconst 3, 1) := by decide +kernel
theorem dX7_counted_94 : decode cX7_counted 94 = .ok (.iaload, 1) := by decide +kernel
theorem dX7_counted_95 : decode cX7_counted 95 = .ok (.ireturn, 1) := by decide +kernel
theorem dX7_counted_96 : decode cX7_counted 96 = .ok (.aload_n 0, 1) := by decide +kernel
theorem dX7_counted_97 : decode cX7_counted 97 = .ok (.getfield 7, 3) := by decide +kernel
theorem dX7_counted_100 : decode cX7_counted 100 = .ok (.iconst 4, 1) := by decide +kernel
theorem dX7_counted_101 : decode cX7_counted 101 = .ok (.iaload, 1) := by decide +kernel
theorem dX7_counted_102 : decode cX7_counted 102 = .ok (.ireturn, 1) := by decide +kernel
theorem dX7_counted_103 : decode cX7_counted 103 = .ok (.aload_n 0, 1) := by decide +kernel
theorem dX7_counted_104 : decode cX7_counted 104 = .ok (.iconst 0, 1) := by decide +kernel
theorem dX7_counted_105 : decode cX7_counted 105 = .ok (.invokevirtual 203, 3) := by decide +kernel
theorem dX7_counted_108 : decode cX7_counted 108 = .ok (.ireturn, 1) := by decide +kernel
theorem dX7_counted_109 : decode cX7_counted 109 = .ok (.aload_n 0, 1) := by decide +kernel
theorem dX7_counted_110 : decode cX7_counted 110 = .ok (.iconst 1, 1) := by decide +kernel
theorem dX7_counted_111 : decode cX7_counted 111 = .ok (.invokevirtual 203, 3) := by decide +kernel
theorem dX7_counted_114 : decode cX7_counted 114 = .ok (.ireturn, 1) := by decide +kernel
theorem dX7_counted_115 : decode cX7_counted 115 = .ok (.aload_n 0, 1) := by decide +kernel
theorem dX7_counted_116 : decode cX7_counted 116 = .ok (.getfield 7, 3) := by decide +kernel
theorem dX7_counted_119 : decode cX7_counted 119 = .ok (.iconst 5, 1) := by decide +kernel
theorem dX7_counted_120 : decode cX7_counted 120 = .ok (.iaload, 1) := by decide +kernel
theorem dX7_counted_121 : decode cX7_counted 121 = .ok (.ireturn, 1) := by decide +kernel
theorem dX7_counted_122 : decode cX7_counted 122 = .ok (.aload_n 0, 1) := by decide +kernel
theorem dX7_counted_123 : decode cX7_counted 123 = .ok (.iconst 3, 1) := by decide +kernel
theorem dX7_counted_124 : decode cX7_counted 124 = .ok (.invokevirtual 206, 3) := by decide +kernel
theorem dX7_counted_127 : decode cX7_counted 127 = .ok (.ireturn, 1) := by decide +kernel
theorem dX7_counted_128 : decode cX7_counted 128 = .ok (.aload_n 0, 1) := by decide +kernel
theorem dX7_counted_129 : decode cX7_counted 129 = .ok (.iconst 4, 1) := by decide +kernel
theorem dX7_counted_130 : decode cX7_counted 130 = .ok (.invokevirtual 206, 3) := by decide +kernel
theorem dX7_counted_133 : decode cX7_counted 133 = .ok (.ireturn, 1) := by decide +kernel
theorem dX7_counted_134 : decode cX7_counted 134 = .ok (.aload_n 0, 1) := by decide +kernel
theorem dX7_counted_135 : decode cX7_counted 135 = .ok (.getfield 7, 3) := by decide +kernel
theorem dX7_counted_138 : decode cX7_counted 138 = .ok (.bipush 6, 2) := by decide +kernel
theorem dX7_counted_140 : decode cX7_counted 140 = .ok (.iaload, 1) := by decide +kernel
theorem dX7_counted_141 : decode cX7_counted 141 = .ok (.ireturn, 1) := by decide +kernel
theorem dX7_counted_142 : decode cX7_counted 142 = .ok (.aload_n 0, 1) := by decide +kernel
theorem dX7_counted_143 : decode cX7_counted 143 = .ok (.invokevirtual 209, 3) := by decide +kernel
theorem dX7_counted_146 : decode cX7_counted 146 = .ok (.ireturn, 1) := by decide +kernel
theorem dX7_counted_147 : decode cX7_counted 147 = .ok (.aload_n 0, 1) := by decide +kernel
theorem dX7_counted_148 : decode cX7_counted 148 = .ok (.getfield 7, 3) := by decide +kernel
theorem dX7_counted_151 : decode cX7_counted 151 = .ok (.bipush 7, 2) := by decide +kernel
theorem dX7_counted_153 : decode cX7_counted 153 = .ok (.iaload, 1) := by decide +kernel
theorem dX7_counted_154 : decode cX7_counted 154 = .ok (.ireturn, 1) := by decide +kernel
theorem dX7_counted_155 : decode cX7_counted 155 = .ok (.aload_n 0, 1) := by decide +kernel
theorem dX7_counted_156 : decode cX7_counted 156 = .ok (.getfield 48, 3) := by decide +kernel
theorem dX7_counted_159 : decode cX7_counted 159 = .ok (.ireturn, 1) := by decide +kernel
theorem dX7_count_0 : decode cX7_count 0 = .ok (.aload_n 0, 1) := by decide +kernel
theorem dX7_count_1 : decode cX7_count 1 = .ok (.iconst 0, 1) := by decide +kernel
theorem dX7_count_2 : decode cX7_count 2 = .ok (.putfield 40, 3) := by decide +kernel
theorem dX7_count_5 : decode cX7_count 5 = .ok (.iload_n 1, 1) := by decide +kernel
theorem dX7_count_6 : decode cX7_count 6 = .ok (.iconst 0, 1) := by decide +kernel
theorem dX7_count_7 : decode cX7_count 7 = .ok (.bipush 13, 2) := by decide +kernel
theorem dX7_count_9 : decode cX7_count 9 = .ok (.invokestatic 44, 3) := by decide +kernel
theorem dX7_count_12 : decode cX7_count 12 = .ok (.ifCond .eq 11, 3) := by decide +kernel
theorem dX7_count_15 : decode cX7_count 15 = .ok (.aload_n 0, 1) := by decide +kernel
theorem dX7_count_16 : decode cX7_count 16 = .ok (.iload_n 1, 1) := by decide +kernel
theorem dX7_count_17 : decode cX7_count 17 = .ok (.invokevirtual 212, 3) := by decide +kernel
theorem dX7_count_20 : decode cX7_count 20 = .ok (.goto 8, 3) := by decide +kernel
theorem dX7_count_23 : decode cX7_count 23 = .ok (.aload_n 0, 1) := by decide +kernel
theorem dX7_count_24 : decode cX7_count 24 = .ok (.iconst 1, 1) := by decide +kernel
theorem dX7_count_25 : decode cX7_count 25 = .ok (.invokevirtual 55, 3) := by decide +kernel
theorem dX7_count_28 : decode cX7_count 28 = .ok (.ireturn, 1) := by decide +kernel
theorem dX7_setting_0 : decode cX7_setting 0 = .ok (.aload_n 0, 1) := by decide +kernel
theorem dX7_setting_1 : decode cX7_setting 1 = .ok (.iconst 0, 1) := by decide +kernel
theorem dX7_setting_2 : decode cX7_setting 2 = .ok (.putfield 40, 3) := by decide +kernel
theorem dX7_setting_5 : decode cX7_setting 5 = .ok (.iload_n 1, 1) := by decide +kernel
theorem dX7_setting_6 : decode cX7_setting 6 = .ok (.iconst 0, 1) := by decide +kernel
theorem dX7_setting_7 : decode cX7_setting 7 = .ok (.iconst 5, 1) := by decide +kernel
theorem dX7_setting_8 : decode cX7_setting 8 = .ok (.invokestatic 44, 3) := by decide +kernel
theorem dX7_setting_11 : decode cX7_setting 11 = .ok (.ifCond .eq 15, 3) := by decide +kernel
theorem dX7_setting_14 : decode cX7_setting 14 = .ok (.aload_n 0, 1) := by decide +kernel
theorem dX7_setting_15 : decode cX7_setting 15 = .ok (.getfield 7, 3) := by decide +kernel
theorem dX7_setting_18 : decode cX7_setting 18 = .ok (.bipush 8, 2) := by decide +kernel
theorem dX7_setting_20 : decode cX7_setting 20 = .ok (.iload_n 1, 1) := by decide +kernel
theorem dX7_setting_21 : decode cX7_setting 21 = .ok (.iadd, 1) := by decide +kernel
theorem dX7_setting_22 : decode cX7_setting 22 = .ok (.iaload, 1) := by decide +kernel
theorem dX7_setting_23 : decode cX7_setting 23 = .ok (.goto 8, 3) := by decide +kernel
theorem dX7_setting_26 : decode cX7_setting 26 = .ok (.aload_n 0, 1) := by decide +kernel
theorem dX7_setting_27 : decode cX7_setting 27 = .ok (.iconst 1, 1) := by decide +kernel
theorem dX7_setting_28 : decode cX7_setting 28 = .ok (.invokevirtual 55, 3) := by decide +kernel
theorem dX7_setting_31 : decode cX7_setting 31 = .ok (.ireturn, 1) := by decide +kernel
theorem dX7_paidNow_0 : decode cX7_paidNow 0 = .ok (.aload_n 0, 1) := by decide +kernel
theorem dX7_paidNow_1 : decode cX7_paidNow 1 = .ok (.invokevirtual 215, 3) := by decide +kernel
theorem dX7_paidNow_4 : decode cX7_paidNow 4 = .ok (.aload_n 0, 1) := by decide +kernel
theorem dX7_paidNow_5 : decode cX7_paidNow 5 = .ok (.iload_n 1, 1) := by decide +kernel
theorem dX7_paidNow_6 : decode cX7_paidNow 6 = .ok (.iload_n 2, 1) := by decide +kernel
theorem dX7_paidNow_7 : decode cX7_paidNow 7 = .ok (.iconst 1, 1) := by decide +kernel
theorem dX7_paidNow_8 : decode cX7_paidNow 8 = .ok (.invokevirtual 156, 3) := by decide +kernel
theorem dX7_paidNow_11 : decode cX7_paidNow 11 = .ok (.aload_n 0, 1) := by decide +kernel
theorem dX7_paidNow_12 : decode cX7_paidNow 12 = .ok (.iload_n 3, 1) := by decide +kernel
theorem dX7_paidNow_13 : decode cX7_paidNow 13 = .ok (.iconst 0, 1) := by decide +kernel
theorem dX7_paidNow_14 : decode cX7_paidNow 14 = .ok (.invokevirtual 61, 3) := by decide +kernel
theorem dX7_paidNow_17 : decode cX7_paidNow 17 = .ok (.istore 4, 2) := by decide +kernel
theorem dX7_paidNow_19 : decode cX7_paidNow 19 = .ok (.aload_n 0, 1) := by decide +kernel
theorem dX7_paidNow_20 : decode cX7_paidNow 20 = .ok (.invokevirtual 218, 3) := by decide +kernel
theorem dX7_paidNow_23 : decode cX7_paidNow 23 = .ok (.iload 4, 2) := by decide +kernel
theorem dX7_paidNow_25 : decode cX7_paidNow 25 = .ok (.aload_n 0, 1) := by decide +kernel
theorem dX7_paidNow_26 : decode cX7_paidNow 26 = .ok (.iload_n 3, 1) := by decide +kernel
theorem dX7_paidNow_27 : decode cX7_paidNow 27 = .ok (.iconst 0, 1) := by decide +kernel
theorem dX7_paidNow_28 : decode cX7_paidNow 28 = .ok (.invokevirtual 61, 3) := by decide +kernel
theorem dX7_paidNow_31 : decode cX7_paidNow 31 = .ok (.isub, 1) := by decide +kernel
theorem dX7_paidNow_32 : decode cX7_paidNow 32 = .ok (.ireturn, 1) := by decide +kernel
theorem dX7_ifPaid_0 : decode cX7_ifPaid 0 = .ok (.aload_n 0, 1) := by decide +kernel
theorem dX7_ifPaid_1 : decode cX7_ifPaid 1 = .ok (.iconst 0, 1) := by decide +kernel
theorem dX7_ifPaid_2 : decode cX7_ifPaid 2 = .ok (.putfield 40, 3) := by decide +kernel
theorem dX7_ifPaid_5 : decode cX7_ifPaid 5 = .ok (.aload_n 0, 1) := by decide +kernel
theorem dX7_ifPaid_6 : decode cX7_ifPaid 6 = .ok (.iload_n 1, 1) := by decide +kernel
theorem dX7_ifPaid_7 : decode cX7_ifPaid 7 = .ok (.invokevirtual 77, 3) := by decide +kernel
theorem dX7_ifPaid_10 : decode cX7_ifPaid 10 = .ok (.ifCond .eq 11, 3) := by decide +kernel
theorem dX7_ifPaid_13 : decode cX7_ifPaid 13 = .ok (.aload_n 0, 1) := by decide +kernel
theorem dX7_ifPaid_14 : decode cX7_ifPaid 14 = .ok (.iload_n 3, 1) := by decide +kernel
theorem dX7_ifPaid_15 : decode cX7_ifPaid 15 = .ok (.invokevirtual 65, 3) := by decide +kernel
theorem dX7_ifPaid_18 : decode cX7_ifPaid 18 = .ok (.ifCond .ne 9, 3) := by decide +kernel
theorem dX7_ifPaid_21 : decode cX7_ifPaid 21 = .ok (.aload_n 0, 1) := by decide +kernel
theorem dX7_ifPaid_22 : decode cX7_ifPaid 22 = .ok (.iconst 1, 1) := by decide +kernel
theorem dX7_ifPaid_23 : decode cX7_ifPaid 23 = .ok (.invokevirtual 55, 3) := by decide +kernel
theorem dX7_ifPaid_26 : decode cX7_ifPaid 26 = .ok (.ireturn, 1) := by decide +kernel
theorem dX7_ifPaid_27 : decode cX7_ifPaid 27 = .ok (.iload_n 2, 1) := by decide +kernel
theorem dX7_ifPaid_28 : decode cX7_ifPaid 28 = .ok (.iconst 1, 1) := by decide +kernel
theorem dX7_ifPaid_29 : decode cX7_ifPaid 29 = .ok (.ldc 69, 2) := by decide +kernel
theorem dX7_ifPaid_31 : decode cX7_ifPaid 31 = .ok (.invokestatic 44, 3) := by decide +kernel
theorem dX7_ifPaid_34 : decode cX7_ifPaid 34 = .ok (.ifCond .ne 9, 3) := by decide +kernel
theorem dX7_ifPaid_37 : decode cX7_ifPaid 37 = .ok (.aload_n 0, 1) := by decide +kernel
theorem dX7_ifPaid_38 : decode cX7_ifPaid 38 = .ok (.iconst 2, 1) := by decide +kernel
theorem dX7_ifPaid_39 : decode cX7_ifPaid 39 = .ok (.invokevirtual 55, 3) := by decide +kernel
theorem dX7_ifPaid_42 : decode cX7_ifPaid 42 = .ok (.ireturn, 1) := by decide +kernel
theorem dX7_ifPaid_43 : decode cX7_ifPaid 43 = .ok (.aload_n 0, 1) := by decide +kernel
theorem dX7_ifPaid_44 : decode cX7_ifPaid 44 = .ok (.iload_n 1, 1) := by decide +kernel
theorem dX7_ifPaid_45 : decode cX7_ifPaid 45 = .ok (.iconst 2, 1) := by decide +kernel
theorem dX7_ifPaid_46 : decode cX7_ifPaid 46 = .ok (.invokevirtual 80, 3) := by decide +kernel
theorem dX7_ifPaid_49 : decode cX7_ifPaid 49 = .ok (.iconst 3, 1) := by decide +kernel
theorem dX7_ifPaid_50 : decode cX7_ifPaid 50 = .ok (.if_icmp .ne 13, 3) := by decide +kernel
theorem dX7_ifPaid_53 : decode cX7_ifPaid 53 = .ok (.aload_n 0, 1) := by decide +kernel
theorem dX7_ifPaid_54 : decode cX7_ifPaid 54 = .ok (.iload_n 1, 1) := by decide +kernel
theorem dX7_ifPaid_55 : decode cX7_ifPaid 55 = .ok (.iload_n 2, 1) := by decide +kernel
theorem dX7_ifPaid_56 : decode cX7_ifPaid 56 = .ok (.iload_n 3, 1) := by decide +kernel
theorem dX7_ifPaid_57 : decode cX7_ifPaid 57 = .ok (.invokevirtual 221, 3) := by decide +kernel
theorem dX7_ifPaid_60 : decode cX7_ifPaid 60 = .ok (.goto 8, 3) := by decide +kernel
theorem dX7_ifPaid_63 : decode cX7_ifPaid 63 = .ok (.aload_n 0, 1) := by decide +kernel
theorem dX7_ifPaid_64 : decode cX7_ifPaid 64 = .ok (.iconst 3, 1) := by decide +kernel
theorem dX7_ifPaid_65 : decode cX7_ifPaid 65 = .ok (.invokevirtual 55, 3) := by decide +kernel
theorem dX7_ifPaid_68 : decode cX7_ifPaid 68 = .ok (.ireturn, 1) := by decide +kernel
theorem dX7_writersDrafts_0 : decode cX7_writersDrafts 0 = .ok (.iconst 0, 1) := by decide +kernel
theorem dX7_writersDrafts_1 : decode cX7_writersDrafts 1 = .ok (.istore_n 2, 1) := by decide +kernel
theorem dX7_writersDrafts_2 : decode cX7_writersDrafts 2 = .ok (.iconst 0, 1) := by decide +kernel
theorem dX7_writersDrafts_3 : decode cX7_writersDrafts 3 = .ok (.istore_n 3, 1) := by decide +kernel
theorem dX7_writersDrafts_4 : decode cX7_writersDrafts 4 = .ok (.iload_n 3, 1) := by decide +kernel
theorem dX7_writersDrafts_5 : decode cX7_writersDrafts 5 = .ok (.aload_n 0, 1) := by decide +kernel
theorem dX7_writersDrafts_6 : decode cX7_writersDrafts 6 = .ok (.getfield 166, 3) := by decide +kernel
theorem dX7_writersDrafts_9 : decode cX7_writersDrafts 9 = .ok (.if_icmp .ge 23, 3) := by decide +kernel
theorem dX7_writersDrafts_12 : decode cX7_writersDrafts 12 = .ok (.iload_n 2, 1) := by decide +kernel
theorem dX7_writersDrafts_13 : decode cX7_writersDrafts 13 = .ok (.aload_n 0, 1) := by decide +kernel
theorem dX7_writersDrafts_14 : decode cX7_writersDrafts 14 = .ok (.iload_n 1, 1) := by decide +kernel
theorem dX7_writersDrafts_15 : decode cX7_writersDrafts 15 = .ok (.aload_n 0, 1) := by decide +kernel
theorem dX7_writersDrafts_16 : decode cX7_writersDrafts 16 = .ok (.getfield 31, 3) := by decide +kernel
theorem dX7_writersDrafts_19 : decode cX7_writersDrafts 19 = .ok (.iload_n 3, 1) := by decide +kernel
theorem dX7_writersDrafts_20 : decode cX7_writersDrafts 20 = .ok (.iaload, 1) := by decide +kernel
theorem dX7_writersDrafts_21 : decode cX7_writersDrafts 21 = .ok (.invokevirtual 163, 3) := by decide +kernel
theorem dX7_writersDrafts_24 : decode cX7_writersDrafts 24 = .ok (.iadd, 1) := by decide +kernel
theorem dX7_writersDrafts_25 : decode cX7_writersDrafts 25 = .ok (.istore_n 2, 1) := by decide +kernel
theorem dX7_writersDrafts_26 : decode cX7_writersDrafts 26 = .ok (.iinc 3 1, 3) := by decide +kernel
theorem dX7_writersDrafts_29 : decode cX7_writersDrafts 29 = .ok (.goto (-25), 3) := by decide +kernel
theorem dX7_writersDrafts_32 : decode cX7_writersDrafts 32 = .ok (.iload_n 2, 1) := by decide +kernel
theorem dX7_writersDrafts_33 : decode cX7_writersDrafts 33 = .ok (.ireturn, 1) := by decide +kernel
theorem dX7_layParts_0 : decode cX7_layParts 0 = .ok (.iload_n 1, 1) := by decide +kernel
theorem dX7_layParts_1 : decode cX7_layParts 1 = .ok (.istore_n 2, 1) := by decide +kernel
theorem dX7_layParts_2 : decode cX7_layParts 2 = .ok (.iconst 0, 1) := by decide +kernel
theorem dX7_layParts_3 : decode cX7_layParts 3 = .ok (.istore_n 3, 1) := by decide +kernel
theorem dX7_layParts_4 : decode cX7_layParts 4 = .ok (.aload_n 0, 1) := by decide +kernel
theorem dX7_layParts_5 : decode cX7_layParts 5 = .ok (.getfield 166, 3) := by decide +kernel
theorem dX7_layParts_8 : decode cX7_layParts 8 = .ok (.iconst 1, 1) := by decide +kernel
theorem dX7_layParts_9 : decode cX7_layParts 9 = .ok (.isub, 1) := by decide +kernel
theorem dX7_layParts_10 : decode cX7_layParts 10 = .ok (.istore 4, 2) := by decide +kernel
theorem dX7_layParts_12 : decode cX7_layParts 12 = .ok (.iload 4, 2) := by decide +kernel
theorem dX7_layParts_14 : decode cX7_layParts 14 = .ok (.ifCond .lt 35, 3) := by decide +kernel
theorem dX7_layParts_17 : decode cX7_layParts 17 = .ok (.aload_n 0, 1) := by decide +kernel
theorem dX7_layParts_18 : decode cX7_layParts 18 = .ok (.getfield 37, 3) := by decide +kernel
theorem dX7_layParts_21 : decode cX7_layParts 21 = .ok (.iload 4, 2) := by decide +kernel
theorem dX7_layParts_23 : decode cX7_layParts 23 = .ok (.iconst 1, 1) := by decide +kernel
theorem dX7_layParts_24 : decode cX7_layParts 24 = .ok (.iload_n 2, 1) := by decide +kernel
theorem dX7_layParts_25 : decode cX7_layParts 25 = .ok (.iconst 4, 1) := by decide +kernel
theorem dX7_layParts_26 : decode cX7_layParts 26 = .ok (.irem, 1) := by decide +kernel
theorem dX7_layParts_27 : decode cX7_layParts 27 = .ok (.iadd, 1) := by decide +kernel
theorem dX7_layParts_28 : decode cX7_layParts 28 = .ok (.iastore, 1) := by decide +kernel
theorem dX7_layParts_29 : decode cX7_layParts 29 = .ok (.iload_n 2, 1) := by decide +kernel
theorem dX7_layParts_30 : decode cX7_layParts 30 = .ok (.iconst 4, 1) := by decide +kernel
theorem dX7_layParts_31 : decode cX7_layParts 31 = .ok (.idiv, 1) := by decide +kernel
theorem dX7_layParts_32 : decode cX7_layParts 32 = .ok (.istore_n 2, 1) := by decide +kernel
theorem dX7_layParts_33 : decode cX7_layParts 33 = .ok (.iload_n 3, 1) := by decide +kernel
theorem dX7_layParts_34 : decode cX7_layParts 34 = .ok (.aload_n 0, 1) := by decide +kernel
theorem dX7_layParts_35 : decode cX7_layParts 35 = .ok (.getfield 37, 3) := by decide +kernel
theorem dX7_layParts_38 : decode cX7_layParts 38 = .ok (.iload 4, 2) := by decide +kernel
theorem dX7_layParts_40 : decode cX7_layParts 40 = .ok (.iaload, 1) := by decide +kernel
theorem dX7_layParts_41 : decode cX7_layParts 41 = .ok (.iadd, 1) := by decide +kernel
theorem dX7_layParts_42 : decode cX7_layParts 42 = .ok (.istore_n 3, 1) := by decide +kernel
theorem dX7_layParts_43 : decode cX7_layParts 43 = .ok (.iinc 4 (-1), 3) := by decide +kernel
theorem dX7_layParts_46 : decode cX7_layParts 46 = .ok (.goto (-34), 3) := by decide +kernel
theorem dX7_layParts_49 : decode cX7_layParts 49 = .ok (.iload_n 3, 1) := by decide +kernel
theorem dX7_layParts_50 : decode cX7_layParts 50 = .ok (.ireturn, 1) := by decide +kernel
theorem dX7_unfair_0 : decode cX7_unfair 0 = .ok (.iconst 0, 1) := by decide +kernel
theorem dX7_unfair_1 : decode cX7_unfair 1 = .ok (.istore 4, 2) := by decide +kernel
theorem dX7_unfair_3 : decode cX7_unfair 3 = .ok (.iconst 0, 1) := by decide +kernel
theorem dX7_unfair_4 : decode cX7_unfair 4 = .ok (.istore 5, 2) := by decide +kernel
theorem dX7_unfair_6 : decode cX7_unfair 6 = .ok (.iload 5, 2) := by decide +kernel
theorem dX7_unfair_8 : decode cX7_unfair 8 = .ok (.aload_n 0, 1) := by decide +kernel
theorem dX7_unfair_9 : decode cX7_unfair 9 = .ok (.getfield 166, 3) := by decide +kernel
theorem dX7_unfair_12 : decode cX7_unfair 12 = .ok (.if_icmp .ge 66, 3) := by decide +kernel
theorem dX7_unfair_15 : decode cX7_unfair 15 = .ok (.aload_n 0, 1) := by decide +kernel
theorem dX7_unfair_16 : decode cX7_unfair 16 = .ok (.getfield 37, 3) := by decide +kernel
theorem dX7_unfair_19 : decode cX7_unfair 19 = .ok (.iload 5, 2) := by decide +kernel
theorem dX7_unfair_21 : decode cX7_unfair 21 = .ok (.iaload, 1) := by decide +kernel
theorem dX7_unfair_22 : decode cX7_unfair 22 = .ok (.iload_n 3, 1) := by decide +kernel
theorem dX7_unfair_23 : decode cX7_unfair 23 = .ok (.imul, 1) := by decide +kernel
theorem dX7_unfair_24 : decode cX7_unfair 24 = .ok (.aload_n 0, 1) := by decide +kernel
theorem dX7_unfair_25 : decode cX7_unfair 25 = .ok (.iload_n 1, 1) := by decide +kernel
theorem dX7_unfair_26 : decode cX7_unfair 26 = .ok (.aload_n 0, 1) := by decide +kernel
theorem dX7_unfair_27 : decode cX7_unfair 27 = .ok (.getfield 31, 3) := by decide +kernel
theorem dX7_unfair_30 : decode cX7_unfair 30 = .ok (.iload 5, 2) := by decide +kernel
theorem dX7_unfair_32 : decode cX7_unfair 32 = .ok (.iaload, 1) := by decide +kernel
theorem dX7_unfair_33 : decode cX7_unfair 33 = .ok (.invokevirtual 163, 3) := by decide +kernel
theorem dX7_unfair_36 : decode cX7_unfair 36 = .ok (.iload_n 2, 1) := by decide +kernel
theorem dX7_unfair_37 : decode cX7_unfair 37 = .ok (.imul, 1) := by decide +kernel
theorem dX7_unfair_38 : decode cX7_unfair 38 = .ok (.isub, 1) := by decide +kernel
theorem dX7_unfair_39 : decode cX7_unfair 39 = .ok (.istore 6, 2) := by decide +kernel
theorem dX7_unfair_41 : decode cX7_unfair 41 = .ok (.iload 6, 2) := by decide +kernel
theorem dX7_unfair_43 : decode cX7_unfair 43 = .ok (.ifCond .ge 9, 3) := by decide +kernel
theorem dX7_unfair_46 : decode cX7_unfair 46 = .ok (.iload 6, 2) := by decide +kernel
theorem dX7_unfair_48 : decode cX7_unfair 48 = .ok (.ineg, 1) := by decide +kernel
theorem dX7_unfair_49 : decode cX7_unfair 49 = .ok (.goto 5, 3) := by decide +kernel
theorem dX7_unfair_52 : decode cX7_unfair 52 = .ok (.iload 6, 2) := by decide +kernel
theorem dX7_unfair_54 : decode cX7_unfair 54 = .ok (.istore 6, 2) := by decide +kernel
theorem dX7_unfair_56 : decode cX7_unfair 56 = .ok (.iload 6, 2) := by decide +kernel
theorem dX7_unfair_58 : decode cX7_unfair 58 = .ok (.iload 4, 2) := by decide +kernel
theorem dX7_unfair_60 : decode cX7_unfair 60 = .ok (.if_icmp .le 8, 3) := by decide +kernel
theorem dX7_unfair_63 : decode cX7_unfair 63 = .ok (.iload 6, 2) := by decide +kernel
theorem dX7_unfair_65 : decode cX7_unfair 65 = .ok (.goto 5, 3) := by decide +kernel
theorem dX7_unfair_68 : decode cX7_unfair 68 = .ok (.iload 4, 2) := by decide +kernel
theorem dX7_unfair_70 : decode cX7_unfair 70 = .ok (.istore 4, 2) := by decide +kernel
theorem dX7_unfair_72 : decode cX7_unfair 72 = .ok (.iinc 5 1, 3) := by decide +kernel
theorem dX7_unfair_75 : decode cX7_unfair 75 = .ok (.goto (-69), 3) := by decide +kernel
theorem dX7_unfair_78 : decode cX7_unfair 78 = .ok (.iload 4, 2) := by decide +kernel
theorem dX7_unfair_80 : decode cX7_unfair 80 = .ok (.ireturn, 1) := by decide +kernel
theorem dX7_layFairest_0 : decode cX7_layFairest 0 = .ok (.aload_n 0, 1) := by decide +kernel
theorem dX7_layFairest_1 : decode cX7_layFairest 1 = .ok (.iload_n 1, 1) := by decide +kernel
theorem dX7_layFairest_2 : decode cX7_layFairest 2 = .ok (.invokevirtual 176, 3) := by decide +kernel
theorem dX7_layFairest_5 : decode cX7_layFairest 5 = .ok (.aload_n 0, 1) := by decide +kernel
theorem dX7_layFairest_6 : decode cX7_layFairest 6 = .ok (.iload_n 1, 1) := by decide +kernel
theorem dX7_layFairest_7 : decode cX7_layFairest 7 = .ok (.invokevirtual 224, 3) := by decide +kernel
theorem dX7_layFairest_10 : decode cX7_layFairest 10 = .ok (.istore_n 2, 1) := by decide +kernel
theorem dX7_layFairest_11 : decode cX7_layFairest 11 = .ok (.iconst 1, 1) := by decide +kernel
theorem dX7_layFairest_12 : decode cX7_layFairest 12 = .ok (.istore_n 3, 1) := by decide +kernel
theorem dX7_layFairest_13 : decode cX7_layFairest 13 = .ok (.iconst 0, 1) := by decide +kernel
theorem dX7_layFairest_14 : decode cX7_layFairest 14 = .ok (.istore 4, 2) := by decide +kernel
theorem dX7_layFairest_16 : decode cX7_layFairest 16 = .ok (.iload 4, 2) := by decide +kernel
theorem dX7_layFairest_18 : decode cX7_layFairest 18 = .ok (.aload_n 0, 1) := by decide +kernel
theorem dX7_layFairest_19 : decode cX7_layFairest 19 = .ok (.getfield 166, 3) := by decide +kernel
theorem dX7_layFairest_22 : decode cX7_layFairest 22 = .ok (.if_icmp .ge 13, 3) := by decide +kernel
theorem dX7_layFairest_25 : decode cX7_layFairest 25 = .ok (.iload_n 3, 1) := by decide +kernel
theorem dX7_layFairest_26 : decode cX7_layFairest 26 = .ok (.iconst 4, 1) := by decide +kernel
theorem dX7_layFairest_27 : decode cX7_layFairest 27 = .ok (.imul, 1) := by decide +kernel
theorem dX7_layFairest_28 : decode cX7_layFairest 28 = .ok (.istore_n 3, 1) := by decide +kernel
theorem dX7_layFairest_29 : decode cX7_layFairest 29 = .ok (.iinc 4 1, 3) := by decide +kernel
theorem dX7_layFairest_32 : decode cX7_layFairest 32 = .ok (.goto (-16), 3) := by decide +kernel
theorem dX7_layFairest_35 : decode cX7_layFairest 35 = .ok (.iconst 0, 1) := by decide +kernel
theorem dX7_layFairest_36 : decode cX7_layFairest 36 = .ok (.istore 4, 2) := by decide +kernel
theorem dX7_layFairest_38 : decode cX7_layFairest 38 = .ok (.iconst 0, 1) := by decide +kernel
theorem dX7_layFairest_39 : decode cX7_layFairest 39 = .ok (.istore 5, 2) := by decide +kernel
theorem dX7_layFairest_41 : decode cX7_layFairest 41 = .ok (.iconst 0, 1) := by decide +kernel
theorem dX7_layFairest_42 : decode cX7_layFairest 42 = .ok (.istore 6, 2) := by decide +kernel
theorem dX7_layFairest_44 : decode cX7_layFairest 44 = .ok (.iload 6, 2) := by decide +kernel
theorem dX7_layFairest_46 : decode cX7_layFairest 46 = .ok (.iload_n 3, 1) := by decide +kernel
theorem dX7_layFairest_47 : decode cX7_layFairest 47 = .ok (.if_icmp .ge 113, 3) := by decide +kernel
theorem dX7_layFairest_50 : decode cX7_layFairest 50 = .ok (.aload_n 0, 1) := by decide +kernel
theorem dX7_layFairest_51 : decode cX7_layFairest 51 = .ok (.getfield 166, 3) := by decide +kernel
theorem dX7_layFairest_54 : decode cX7_layFairest 54 = .ok (.ifCond .le 106, 3) := by decide +kernel
theorem dX7_layFairest_57 : decode cX7_layFairest 57 = .ok (.aload_n 0, 1) := by decide +kernel
theorem dX7_layFairest_58 : decode cX7_layFairest 58 = .ok (.iload 6, 2) := by decide +kernel
theorem dX7_layFairest_60 : decode cX7_layFairest 60 = .ok (.invokevirtual 227, 3) := by decide +kernel
theorem dX7_layFairest_63 : decode cX7_layFairest 63 = .ok (.istore 7, 2) := by decide +kernel
theorem dX7_layFairest_65 : decode cX7_layFairest 65 = .ok (.aload_n 0, 1) := by decide +kernel
theorem dX7_layFairest_66 : decode cX7_layFairest 66 = .ok (.iload_n 1, 1) := by decide +kernel
theorem dX7_layFairest_67 : decode cX7_layFairest 67 = .ok (.iload 7, 2) := by decide +kernel
theorem dX7_layFairest_69 : decode cX7_layFairest 69 = .ok (.iload_n 2, 1) := by decide +kernel
theorem dX7_layFairest_70 : decode cX7_layFairest 70 = .ok (.invokevirtual 230, 3) := by decide +kernel
theorem dX7_layFairest_73 : decode cX7_layFairest 73 = .ok (.istore 8, 2) := by decide +kernel
theorem dX7_layFairest_75 : decode cX7_layFairest 75 = .ok (.iload 4, 2) := by decide +kernel
theorem dX7_layFairest_77 : decode cX7_layFairest 77 = .ok (.ifCond .ne 7, 3) := by decide +kernel
theorem dX7_layFairest_80 : decode cX7_layFairest 80 = .ok (.iconst (-1), 1) := by decide +kernel
theorem dX7_layFairest_81 : decode cX7_layFairest 81 = .ok (.goto 14, 3) := by decide +kernel
theorem dX7_layFairest_84 : decode cX7_layFairest 84 = .ok (.iload 8, 2) := by decide +kernel
theorem dX7_layFairest_86 : decode cX7_layFairest 86 = .ok (.iload 4, 2) := by decide +kernel
theorem dX7_layFairest_88 : decode cX7_layFairest 88 = .ok (.imul, 1) := by decide +kernel
theorem dX7_layFairest_89 : decode cX7_layFairest 89 = .ok (.iload 5, 2) := by decide +kernel
theorem dX7_layFairest_91 : decode cX7_layFairest 91 = .ok (.iload 7, 2) := by decide +kernel
theorem dX7_layFairest_93 : decode cX7_layFairest 93 = .ok (.imul, 1) := by decide +kernel
theorem dX7_layFairest_94 : decode cX7_layFairest 94 = .ok (.isub, 1) := by decide +kernel
theorem dX7_layFairest_95 : decode cX7_layFairest 95 = .ok (.istore 9, 2) := by decide +kernel
theorem dX7_layFairest_97 : decode cX7_layFairest 97 = .ok (.iload 9, 2) := by decide +kernel
theorem dX7_layFairest_99 : decode cX7_layFairest 99 = .ok (.ifCond .lt 15, 3) := by decide +kernel
theorem dX7_layFairest_102 : decode cX7_layFairest 102 = .ok (.iload 9, 2) := by decide +kernel
theorem dX7_layFairest_104 : decode cX7_layFairest 104 = .ok (.ifCond .ne 50, 3) := by decide +kernel
theorem dX7_layFairest_107 : decode cX7_layFairest 107 = .ok (.iload 7, 2) := by decide +kernel
theorem dX7_layFairest_109 : decode cX7_layFairest 109 = .ok (.iload 4, 2) := by decide +kernel
theorem dX7_layFairest_111 : decode cX7_layFairest 111 = .ok (.if_icmp .ge 43, 3) := by decide +kernel
theorem dX7_layFairest_114 : decode cX7_layFairest 114 = .ok (.iload 7, 2) := by decide +kernel
theorem dX7_layFairest_116 : decode cX7_layFairest 116 = .ok (.istore 4, 2) := by decide +kernel
theorem dX7_layFairest_118 : decode cX7_layFairest 118 = .ok (.iload 8, 2) := by decide +kernel
theorem dX7_layFairest_120 : decode cX7_layFairest 120 = .ok (.istore 5, 2) := by decide +kernel
theorem dX7_layFairest_122 : decode cX7_layFairest 122 = .ok (.iconst 0, 1) := by decide +kernel
theorem dX7_layFairest_123 : decode cX7_layFairest 123 = .ok (.istore 10, 2) := by decide +kernel
theorem dX7_layFairest_125 : decode cX7_layFairest 125 = .ok (.iload 10, 2) := by decide +kernel
theorem dX7_layFairest_127 : decode cX7_layFairest 127 = .ok (.aload_n 0, 1) := by decide +kernel
theorem dX7_layFairest_128 : decode cX7_layFairest 128 = .ok (.getfield 166, 3) := by decide +kernel
theorem dX7_layFairest_131 : decode cX7_layFairest 131 = .ok (.if_icmp .ge 23, 3) := by decide +kernel
theorem dX7_layFairest_134 : decode cX7_layFairest 134 = .ok (.aload_n 0, 1) := by decide +kernel
theorem dX7_layFairest_135 : decode cX7_layFairest 135 = .ok (.getfield 34, 3) := by decide +kernel
theorem dX7_layFairest_138 : decode cX7_layFairest 138 = .ok (.iload 10, 2) := by decide +kernel
theorem dX7_layFairest_140 : decode cX7_layFairest 140 = .ok (.aload_n 0, 1) := by decide +kernel
theorem dX7_layFairest_141 : decode cX7_layFairest 141 = .ok (.getfield 37, 3) := by decide +kernel
theorem dX7_layFairest_144 : decode cX7_layFairest 144 = .ok (.iload 10, 2) := by decide +kernel
theorem dX7_layFairest_146 : decode cX7_layFairest 146 = .ok (.iaload, 1) := by decide +kernel
theorem dX7_layFairest_147 : decode cX7_layFairest 147 = .ok (.iastore, 1) := by decide +kernel
theorem dX7_layFairest_148 : decode cX7_layFairest 148 = .ok (.iinc 10 1, 3) := by decide +kernel
theorem dX7_layFairest_151 : decode cX7_layFairest 151 = .ok (.goto (-26), 3) := by decide +kernel
theorem dX7_layFairest_154 : decode cX7_layFairest 154 = .ok (.iinc 6 1, 3) := by decide +kernel
theorem dX7_layFairest_157 : decode cX7_layFairest 157 = .ok (.goto (-113), 3) := by decide +kernel
theorem dX7_layFairest_160 : decode cX7_layFairest 160 = .ok (.return_, 1) := by decide +kernel
theorem dX7_fairOf_0 : decode cX7_fairOf 0 = .ok (.iconst 0, 1) := by decide +kernel
theorem dX7_fairOf_1 : decode cX7_fairOf 1 = .ok (.istore_n 2, 1) := by decide +kernel
theorem dX7_fairOf_2 : decode cX7_fairOf 2 = .ok (.iconst 0, 1) := by decide +kernel
theorem dX7_fairOf_3 : decode cX7_fairOf 3 = .ok (.istore_n 3, 1) := by decide +kernel
theorem dX7_fairOf_4 : decode cX7_fairOf 4 = .ok (.iload_n 3, 1) := by decide +kernel
theorem dX7_fairOf_5 : decode cX7_fairOf 5 = .ok (.aload_n 0, 1) := by decide +kernel
theorem dX7_fairOf_6 : decode cX7_fairOf 6 = .ok (.getfield 166, 3) := by decide +kernel
theorem dX7_fairOf_9 : decode cX7_fairOf 9 = .ok (.if_icmp .ge 30, 3) := by decide +kernel
theorem dX7_fairOf_12 : decode cX7_fairOf 12 = .ok (.aload_n 0, 1) := by decide +kernel
theorem dX7_fairOf_13 : decode cX7_fairOf 13 = .ok (.getfield 31, 3) := by decide +kernel
theorem dX7_fairOf_16 : decode cX7_fairOf 16 = .ok (.iload_n 3, 1) := by decide +kernel
theorem dX7_fairOf_17 : decode cX7_fairOf 17 = .ok (.iaload, 1) := by decide +kernel
theorem dX7_fairOf_18 : decode cX7_fairOf 18 = .ok (.iload_n 1, 1) := by decide +kernel
theorem dX7_fairOf_19 : decode cX7_fairOf 19 = .ok (.if_icmp .ne 12, 3) := by decide +kernel
theorem dX7_fairOf_22 : decode cX7_fairOf 22 = .ok (.aload_n 0, 1) := by decide +kernel
theorem dX7_fairOf_23 : decode cX7_fairOf 23 = .ok (.getfield 34, 3) := by decide +kernel
theorem dX7_fairOf_26 : decode cX7_fairOf 26 = .ok (.iload_n 3, 1) := by decide +kernel
theorem dX7_fairOf_27 : decode cX7_fairOf 27 = .ok (.iaload, 1) := by decide +kernel
theorem dX7_fairOf_28 : decode cX7_fairOf 28 = .ok (.goto 4, 3) := by decide +kernel
theorem dX7_fairOf_31 : decode cX7_fairOf 31 = .ok (.iload_n 2, 1) := by decide +kernel
theorem dX7_fairOf_32 : decode cX7_fairOf 32 = .ok (.istore_n 2, 1) := by decide +kernel
theorem dX7_fairOf_33 : decode cX7_fairOf 33 = .ok (.iinc 3 1, 3) := by decide +kernel
theorem dX7_fairOf_36 : decode cX7_fairOf 36 = .ok (.goto (-32), 3) := by decide +kernel
theorem dX7_fairOf_39 : decode cX7_fairOf 39 = .ok (.iload_n 2, 1) := by decide +kernel
theorem dX7_fairOf_40 : decode cX7_fairOf 40 = .ok (.ireturn, 1) := by decide +kernel
theorem dX7_fairest_0 : decode cX7_fairest 0 = .ok (.aload_n 0, 1) := by decide +kernel
theorem dX7_fairest_1 : decode cX7_fairest 1 = .ok (.iconst 0, 1) := by decide +kernel
theorem dX7_fairest_2 : decode cX7_fairest 2 = .ok (.putfield 40, 3) := by decide +kernel
theorem dX7_fairest_5 : decode cX7_fairest 5 = .ok (.aload_n 0, 1) := by decide +kernel
theorem dX7_fairest_6 : decode cX7_fairest 6 = .ok (.iload_n 1, 1) := by decide +kernel
theorem dX7_fairest_7 : decode cX7_fairest 7 = .ok (.invokevirtual 77, 3) := by decide +kernel
theorem dX7_fairest_10 : decode cX7_fairest 10 = .ok (.ifCond .eq 11, 3) := by decide +kernel
theorem dX7_fairest_13 : decode cX7_fairest 13 = .ok (.aload_n 0, 1) := by decide +kernel
theorem dX7_fairest_14 : decode cX7_fairest 14 = .ok (.iload_n 2, 1) := by decide +kernel
theorem dX7_fairest_15 : decode cX7_fairest 15 = .ok (.invokevirtual 65, 3) := by decide +kernel
theorem dX7_fairest_18 : decode cX7_fairest 18 = .ok (.ifCond .ne 9, 3) := by decide +kernel
theorem dX7_fairest_21 : decode cX7_fairest 21 = .ok (.aload_n 0, 1) := by decide +kernel
theorem dX7_fairest_22 : decode cX7_fairest 22 = .ok (.iconst 1, 1) := by decide +kernel
theorem dX7_fairest_23 : decode cX7_fairest 23 = .ok (.invokevirtual 55, 3) := by decide +kernel
theorem dX7_fairest_26 : decode cX7_fairest 26 = .ok (.ireturn, 1) := by decide +kernel
theorem dX7_fairest_27 : decode cX7_fairest 27 = .ok (.aload_n 0, 1) := by decide +kernel
theorem dX7_fairest_28 : decode cX7_fairest 28 = .ok (.iload_n 1, 1) := by decide +kernel
theorem dX7_fairest_29 : decode cX7_fairest 29 = .ok (.invokevirtual 233, 3) := by decide +kernel
theorem dX7_fairest_32 : decode cX7_fairest 32 = .ok (.aload_n 0, 1) := by decide +kernel
theorem dX7_fairest_33 : decode cX7_fairest 33 = .ok (.iload_n 2, 1) := by decide +kernel
theorem dX7_fairest_34 : decode cX7_fairest 34 = .ok (.invokevirtual 236, 3) := by decide +kernel
theorem dX7_fairest_37 : decode cX7_fairest 37 = .ok (.ireturn, 1) := by decide +kernel
theorem dX7_bestNow_0 : decode cX7_bestNow 0 = .ok (.iconst (-1), 1) := by decide +kernel
theorem dX7_bestNow_1 : decode cX7_bestNow 1 = .ok (.istore_n 3, 1) := by decide +kernel
theorem dX7_bestNow_2 : decode cX7_bestNow 2 = .ok (.iconst (-1), 1) := by decide +kernel
theorem dX7_bestNow_3 : decode cX7_bestNow 3 = .ok (.istore 4, 2) := by decide +kernel
theorem dX7_bestNow_5 : decode cX7_bestNow 5 = .ok (.iconst 0, 1) := by decide +kernel
theorem dX7_bestNow_6 : decode cX7_bestNow 6 = .ok (.istore 5, 2) := by decide +kernel
theorem dX7_bestNow_8 : decode cX7_bestNow 8 = .ok (.iload 5, 2) := by decide +kernel
theorem dX7_bestNow_10 : decode cX7_bestNow 10 = .ok (.aload_n 0, 1) := by decide +kernel
theorem dX7_bestNow_11 : decode cX7_bestNow 11 = .ok (.getfield 7, 3) := by decide +kernel
theorem dX7_bestNow_14 : decode cX7_bestNow 14 = .ok (.iconst 1, 1) := by decide +kernel
theorem dX7_bestNow_15 : decode cX7_bestNow 15 = .ok (.iaload, 1) := by decide +kernel
theorem dX7_bestNow_16 : decode cX7_bestNow 16 = .ok (.if_icmp .ge 64, 3) := by decide +kernel
theorem dX7_bestNow_19 : decode cX7_bestNow 19 = .ok (.aload_n 0, 1) := by decide +kernel
theorem dX7_bestNow_20 : decode cX7_bestNow 20 = .ok (.iload 5, 2) := by decide +kernel
theorem dX7_bestNow_22 : decode cX7_bestNow 22 = .ok (.iconst 2, 1) := by decide +kernel
theorem dX7_bestNow_23 : decode cX7_bestNow 23 = .ok (.invokevirtual 80, 3) := by decide +kernel
theorem dX7_bestNow_26 : decode cX7_bestNow 26 = .ok (.iconst 3, 1) := by decide +kernel
theorem dX7_bestNow_27 : decode cX7_bestNow 27 = .ok (.if_icmp .ne 14, 3) := by decide +kernel
theorem dX7_bestNow_30 : decode cX7_bestNow 30 = .ok (.aload_n 0, 1) := by decide +kernel
theorem dX7_bestNow_31 : decode cX7_bestNow 31 = .ok (.iload 5, 2) := by decide +kernel
theorem dX7_bestNow_33 : decode cX7_bestNow 33 = .ok (.iload_n 2, 1) := by decide +kernel
theorem dX7_bestNow_34 : decode cX7_bestNow 34 = .ok (.iload_n 1, 1) := by decide +kernel
theorem dX7_bestNow_35 : decode cX7_bestNow 35 = .ok (.invokevirtual 221, 3) := by decide +kernel
theorem dX7_bestNow_38 : decode cX7_bestNow 38 = .ok (.goto 4, 3) := by decide +kernel
theorem dX7_bestNow_41 : decode cX7_bestNow 41 = .ok (.iconst (-1), 1) := by decide +kernel
theorem dX7_bestNow_42 : decode cX7_bestNow 42 = .ok (.istore 6, 2) := by decide +kernel
theorem dX7_bestNow_44 : decode cX7_bestNow 44 = .ok (.iload 6, 2) := by decide +kernel
theorem dX7_bestNow_46 : decode cX7_bestNow 46 = .ok (.iload 4, 2) := by decide +kernel
theorem dX7_bestNow_48 : decode cX7_bestNow 48 = .ok (.if_icmp .le 8, 3) := by decide +kernel
theorem dX7_bestNow_51 : decode cX7_bestNow 51 = .ok (.iload 5, 2) := by decide +kernel
theorem dX7_bestNow_53 : decode cX7_bestNow 53 = .ok (.goto 4, 3) := by decide +kernel
theorem dX7_bestNow_56 : decode cX7_bestNow 56 = .ok (.iload_n 3, 1) := by decide +kernel
theorem dX7_bestNow_57 : decode cX7_bestNow 57 = .ok (.istore_n 3, 1) := by decide +kernel
theorem dX7_bestNow_58 : decode cX7_bestNow 58 = .ok (.iload 6, 2) := by decide +kernel
theorem dX7_bestNow_60 : decode cX7_bestNow 60 = .ok (.iload 4, 2) := by decide +kernel
theorem dX7_bestNow_62 : decode cX7_bestNow 62 = .ok (.if_icmp .le 8, 3) := by decide +kernel
theorem dX7_bestNow_65 : decode cX7_bestNow 65 = .ok (.iload 6, 2) := by decide +kernel
theorem dX7_bestNow_67 : decode cX7_bestNow 67 = .ok (.goto 5, 3) := by decide +kernel
theorem dX7_bestNow_70 : decode cX7_bestNow 70 = .ok (.iload 4, 2) := by decide +kernel
theorem dX7_bestNow_72 : decode cX7_bestNow 72 = .ok (.istore 4, 2) := by decide +kernel
theorem dX7_bestNow_74 : decode cX7_bestNow 74 = .ok (.iinc 5 1, 3) := by decide +kernel
theorem dX7_bestNow_77 : decode cX7_bestNow 77 = .ok (.goto (-69), 3) := by decide +kernel
theorem dX7_bestNow_80 : decode cX7_bestNow 80 = .ok (.iload_n 3, 1) := by decide +kernel
theorem dX7_bestNow_81 : decode cX7_bestNow 81 = .ok (.ireturn, 1) := by decide +kernel
theorem dX7_bestPiece_0 : decode cX7_bestPiece 0 = .ok (.aload_n 0, 1) := by decide +kernel
theorem dX7_bestPiece_1 : decode cX7_bestPiece 1 = .ok (.iconst 0, 1) := by decide +kernel
theorem dX7_bestPiece_2 : decode cX7_bestPiece 2 = .ok (.putfield 40, 3) := by decide +kernel
theorem dX7_bestPiece_5 : decode cX7_bestPiece 5 = .ok (.aload_n 0, 1) := by decide +kernel
theorem dX7_bestPiece_6 : decode cX7_bestPiece 6 = .ok (.iload_n 1, 1) := by decide +kernel
theorem dX7_bestPiece_7 : decode cX7_bestPiece 7 = .ok (.invokevirtual 65, 3) := by decide +kernel
theorem dX7_bestPiece_10 : decode cX7_bestPiece 10 = .ok (.ifCond .ne 9, 3) := by decide +kernel
theorem dX7_bestPiece_13 : decode cX7_bestPiece 13 = .ok (.aload_n 0, 1) := by decide +kernel
theorem dX7_bestPiece_14 : decode cX7_bestPiece 14 = .ok (.iconst 1, 1) := by decide +kernel
theorem dX7_bestPiece_15 : decode cX7_bestPiece 15 = .ok (.invokevirtual 55, 3) := by decide +kernel
theorem dX7_bestPiece_18 : decode cX7_bestPiece 18 = .ok (.ireturn, 1) := by decide +kernel
theorem dX7_bestPiece_19 : decode cX7_bestPiece 19 = .ok (.iload_n 2, 1) := by decide +kernel
theorem dX7_bestPiece_20 : decode cX7_bestPiece 20 = .ok (.iconst 1, 1) := by decide +kernel
theorem dX7_bestPiece_21 : decode cX7_bestPiece 21 = .ok (.ldc 69, 2) := by decide +kernel
theorem dX7_bestPiece_23 : decode cX7_bestPiece 23 = .ok (.invokestatic 44, 3) := by decide +kernel
theorem dX7_bestPiece_26 : decode cX7_bestPiece 26 = .ok (.ifCond .eq 12, 3) := by decide +kernel
theorem dX7_bestPiece_29 : decode cX7_bestPiece 29 = .ok (.aload_n 0, 1) := by decide +kernel
theorem dX7_bestPiece_30 : decode cX7_bestPiece 30 = .ok (.iload_n 1, 1) := by decide +kernel
theorem dX7_bestPiece_31 : decode cX7_bestPiece 31 = .ok (.iload_n 2, 1) := by decide +kernel
theorem dX7_bestPiece_32 : decode cX7_bestPiece 32 = .ok (.invokevirtual 239, 3) := by decide +kernel
theorem dX7_bestPiece_35 : decode cX7_bestPiece 35 = .ok (.goto 8, 3) := by decide +kernel
theorem dX7_bestPiece_38 : decode cX7_bestPiece 38 = .ok (.aload_n 0, 1) := by decide +kernel
theorem dX7_bestPiece_39 : decode cX7_bestPiece 39 = .ok (.iconst 2, 1) := by decide +kernel
theorem dX7_bestPiece_40 : decode cX7_bestPiece 40 = .ok (.invokevirtual 55, 3) := by decide +kernel
theorem dX7_bestPiece_43 : decode cX7_bestPiece 43 = .ok (.ireturn, 1) := by decide +kernel
theorem dX7_spreadNow_0 : decode cX7_spreadNow 0 = .ok (.iconst 0, 1) := by decide +kernel
theorem dX7_spreadNow_1 : decode cX7_spreadNow 1 = .ok (.istore_n 1, 1) := by decide +kernel
theorem dX7_spreadNow_2 : decode cX7_spreadNow 2 = .ok (.iconst 0, 1) := by decide +kernel
theorem dX7_spreadNow_3 : decode cX7_spreadNow 3 = .ok (.istore_n 2, 1) := by decide +kernel
theorem dX7_spreadNow_4 : decode cX7_spreadNow 4 = .ok (.iload_n 2, 1) := by decide +kernel
theorem dX7_spreadNow_5 : decode cX7_spreadNow 5 = .ok (.aload_n 0, 1) := by decide +kernel
theorem dX7_spreadNow_6 : decode cX7_spreadNow 6 = .ok (.getfield 7, 3) := by decide +kernel
theorem dX7_spreadNow_9 : decode cX7_spreadNow 9 = .ok (.iconst 0, 1) := by decide +kernel
theorem dX7_spreadNow_10 : decode cX7_spreadNow 10 = .ok (.iaload, 1) := by decide +kernel
theorem dX7_spreadNow_11 : decode cX7_spreadNow 11 = .ok (.if_icmp .ge 53, 3) := by decide +kernel
theorem dX7_spreadNow_14 : decode cX7_spreadNow 14 = .ok (.iconst 0, 1) := by decide +kernel
theorem dX7_spreadNow_15 : decode cX7_spreadNow 15 = .ok (.istore_n 3, 1) := by decide +kernel
theorem dX7_spreadNow_16 : decode cX7_spreadNow 16 = .ok (.iload_n 3, 1) := by decide +kernel
theorem dX7_spreadNow_17 : decode cX7_spreadNow 17 = .ok (.iload_n 2, 1) := by decide +kernel
theorem dX7_spreadNow_18 : decode cX7_spreadNow 18 = .ok (.if_icmp .ge 40, 3) := by decide +kernel
theorem dX7_spreadNow_21 : decode cX7_spreadNow 21 = .ok (.aload_n 0, 1) := by decide +kernel
theorem dX7_spreadNow_22 : decode cX7_spreadNow 22 = .ok (.iload_n 2, 1) := by decide +kernel
theorem dX7_spreadNow_23 : decode cX7_spreadNow 23 = .ok (.iconst 0, 1) := by decide +kernel
theorem dX7_spreadNow_24 : decode cX7_spreadNow 24 = .ok (.invokevirtual 61, 3) := by decide +kernel
theorem dX7_spreadNow_27 : decode cX7_spreadNow 27 = .ok (.aload_n 0, 1) := by decide +kernel
theorem dX7_spreadNow_28 : decode cX7_spreadNow 28 = .ok (.iload_n 3, 1) := by decide +kernel
theorem dX7_spreadNow_29 : decode cX7_spreadNow 29 = .ok (.iconst 0, 1) := by decide +kernel
theorem dX7_spreadNow_30 : decode cX7_spreadNow 30 = .ok (.invokevirtual 61, 3) := by decide +kernel
theorem dX7_spreadNow_33 : decode cX7_spreadNow 33 = .ok (.isub, 1) := by decide +kernel
theorem dX7_spreadNow_34 : decode cX7_spreadNow 34 = .ok (.istore 4, 2) := by decide +kernel
theorem dX7_spreadNow_36 : decode cX7_spreadNow 36 = .ok (.iload_n 1, 1) := by decide +kernel
theorem dX7_spreadNow_37 : decode cX7_spreadNow 37 = .ok (.iload 4, 2) := by decide +kernel
theorem dX7_spreadNow_39 : decode cX7_spreadNow 39 = .ok (.ifCond .ge 9, 3) := by decide +kernel
theorem dX7_spreadNow_42 : decode cX7_spreadNow 42 = .ok (.iload 4, 2) := by decide +kernel
theorem dX7_spreadNow_44 : decode cX7_spreadNow 44 = .ok (.ineg, 1) := by decide +kernel
theorem dX7_spreadNow_45 : decode cX7_spreadNow 45 = .ok (.goto 5, 3) := by decide +kernel
theorem dX7_spreadNow_48 : decode cX7_spreadNow 48 = .ok (.iload 4, 2) := by decide +kernel
theorem dX7_spreadNow_50 : decode cX7_spreadNow 50 = .ok (.iadd, 1) := by decide +kernel
theorem dX7_spreadNow_51 : decode cX7_spreadNow 51 = .ok (.istore_n 1, 1) := by decide +kernel
theorem dX7_spreadNow_52 : decode cX7_spreadNow 52 = .ok (.iinc 3 1, 3) := by decide +kernel
theorem dX7_spreadNow_55 : decode cX7_spreadNow 55 = .ok (.goto (-39), 3) := by decide +kernel
theorem dX7_spreadNow_58 : decode cX7_spreadNow 58 = .ok (.iinc 2 1, 3) := by decide +kernel
theorem dX7_spreadNow_61 : decode cX7_spreadNow 61 = .ok (.goto (-57), 3) := by decide +kernel
theorem dX7_spreadNow_64 : decode cX7_spreadNow 64 = .ok (.aload_n 0, 1) := by decide +kernel
theorem dX7_spreadNow_65 : decode cX7_spreadNow 65 = .ok (.iconst 0, 1) := by decide +kernel
theorem dX7_spreadNow_66 : decode cX7_spreadNow 66 = .ok (.invokevirtual 203, 3) := by decide +kernel
theorem dX7_spreadNow_69 : decode cX7_spreadNow 69 = .ok (.istore_n 2, 1) := by decide +kernel
theorem dX7_spreadNow_70 : decode cX7_spreadNow 70 = .ok (.iload_n 2, 1) := by decide +kernel
theorem dX7_spreadNow_71 : decode cX7_spreadNow 71 = .ok (.ifCond .ne 7, 3) := by decide +kernel
theorem dX7_spreadNow_74 : decode cX7_spreadNow 74 = .ok (.dconst 0, 1) := by decide +kernel
theorem dX7_spreadNow_75 : decode cX7_spreadNow 75 = .ok (.goto 15, 3) := by decide +kernel
theorem dX7_spreadNow_78 : decode cX7_spreadNow 78 = .ok (.iload_n 1, 1) := by decide +kernel
theorem dX7_spreadNow_79 : decode cX7_spreadNow 79 = .ok (.i2d, 1) := by decide +kernel
theorem dX7_spreadNow_80 : decode cX7_spreadNow 80 = .ok (.aload_n 0, 1) := by decide +kernel
theorem dX7_spreadNow_81 : decode cX7_spreadNow 81 = .ok (.getfield 7, 3) := by decide +kernel
theorem dX7_spreadNow_84 : decode cX7_spreadNow 84 = .ok (.iconst 0, 1) := by decide +kernel
theorem dX7_spreadNow_85 : decode cX7_spreadNow 85 = .ok (.iaload, 1) := by decide +kernel
theorem dX7_spreadNow_86 : decode cX7_spreadNow 86 = .ok (.iload_n 2, 1) := by decide +kernel
theorem dX7_spreadNow_87 : decode cX7_spreadNow 87 = .ok (.imul, 1) := by decide +kernel
theorem dX7_spreadNow_88 : decode cX7_spreadNow 88 = .ok (.i2d, 1) := by decide +kernel
theorem dX7_spreadNow_89 : decode cX7_spreadNow 89 = .ok (.ddiv, 1) := by decide +kernel
theorem dX7_spreadNow_90 : decode cX7_spreadNow 90 = .ok (.dreturn, 1) := by decide +kernel
theorem dX7_spread_0 : decode cX7_spread 0 = .ok (.aload_n 0, 1) := by decide +kernel
theorem dX7_spread_1 : decode cX7_spread 1 = .ok (.iconst 0, 1) := by decide +kernel
theorem dX7_spread_2 : decode cX7_spread 2 = .ok (.putfield 40, 3) := by decide +kernel
theorem dX7_spread_5 : decode cX7_spread 5 = .ok (.aload_n 0, 1) := by decide +kernel
theorem dX7_spread_6 : decode cX7_spread 6 = .ok (.invokevirtual 242, 3) := by decide +kernel
theorem dX7_spread_9 : decode cX7_spread 9 = .ok (.dreturn, 1) := by decide +kernel
theorem dX7_mix_0 : decode cX7_mix 0 = .ok (.aload_n 0, 1) := by decide +kernel
theorem dX7_mix_1 : decode cX7_mix 1 = .ok (.ldc2_w 246, 3) := by decide +kernel
theorem dX7_mix_4 : decode cX7_mix 4 = .ok (.aload_n 0, 1) := by decide +kernel
theorem dX7_mix_5 : decode cX7_mix 5 = .ok (.getfield 248, 3) := by decide +kernel
theorem dX7_mix_8 : decode cX7_mix 8 = .ok (.lmul, 1) := by decide +kernel
theorem dX7_mix_9 : decode cX7_mix 9 = .ok (.lload_n 1, 1) := by decide +kernel
theorem dX7_mix_10 : decode cX7_mix 10 = .ok (.ladd, 1) := by decide +kernel
theorem dX7_mix_11 : decode cX7_mix 11 = .ok (.putfield 248, 3) := by decide +kernel
theorem dX7_mix_14 : decode cX7_mix 14 = .ok (.return_, 1) := by decide +kernel
theorem dX7_mixPiece_0 : decode cX7_mixPiece 0 = .ok (.iconst 0, 1) := by decide +kernel
theorem dX7_mixPiece_1 : decode cX7_mixPiece 1 = .ok (.istore_n 2, 1) := by decide +kernel
theorem dX7_mixPiece_2 : decode cX7_mixPiece 2 = .ok (.iload_n 2, 1) := by decide +kernel
theorem dX7_mixPiece_3 : decode cX7_mixPiece 3 = .ok (.bipush 10, 2) := by decide +kernel
theorem dX7_mixPiece_5 : decode cX7_mixPiece 5 = .ok (.if_icmp .ge 20, 3) := by decide +kernel
theorem dX7_mixPiece_8 : decode cX7_mixPiece 8 = .ok (.aload_n 0, 1) := by decide +kernel
theorem dX7_mixPiece_9 : decode cX7_mixPiece 9 = .ok (.aload_n 0, 1) := by decide +kernel
theorem dX7_mixPiece_10 : decode cX7_mixPiece 10 = .ok (.iload_n 1, 1) := by decide +kernel
theorem dX7_mixPiece_11 : decode cX7_mixPiece 11 = .ok (.iload_n 2, 1) := by decide +kernel
theorem dX7_mixPiece_12 : decode cX7_mixPiece 12 = .ok (.invokevirtual 197, 3) := by decide +kernel
theorem dX7_mixPiece_15 : decode cX7_mixPiece 15 = .ok (.i2l, 1) := by decide +kernel
theorem dX7_mixPiece_16 : decode cX7_mixPiece 16 = .ok (.invokevirtual 252, 3) := by decide +kernel
theorem dX7_mixPiece_19 : decode cX7_mixPiece 19 = .ok (.iinc 2 1, 3) := by decide +kernel
theorem dX7_mixPiece_22 : decode cX7_mixPiece 22 = .ok (.goto (-20), 3) := by decide +kernel
theorem dX7_mixPiece_25 : decode cX7_mixPiece 25 = .ok (.aload_n 0, 1) := by decide +kernel
theorem dX7_mixPiece_26 : decode cX7_mixPiece 26 = .ok (.iload_n 1, 1) := by decide +kernel
theorem dX7_mixPiece_27 : decode cX7_mixPiece 27 = .ok (.invokevirtual 233, 3) := by decide +kernel
theorem dX7_mixPiece_30 : decode cX7_mixPiece 30 = .ok (.iconst 0, 1) := by decide +kernel
theorem dX7_mixPiece_31 : decode cX7_mixPiece 31 = .ok (.istore_n 2, 1) := by decide +kernel
theorem dX7_mixPiece_32 : decode cX7_mixPiece 32 = .ok (.iload_n 2, 1) := by decide +kernel
theorem dX7_mixPiece_33 : decode cX7_mixPiece 33 = .ok (.aload_n 0, 1) := by decide +kernel
theorem dX7_mixPiece_34 : decode cX7_mixPiece 34 = .ok (.getfield 7, 3) := by decide +kernel
theorem dX7_mixPiece_37 : decode cX7_mixPiece 37 = .ok (.iconst 0, 1) := by decide +kernel
theorem dX7_mixPiece_38 : decode cX7_mixPiece 38 = .ok (.iaload, 1) := by decide +kernel
theorem dX7_mixPiece_39 : decode cX7_mixPiece 39 = .ok (.if_icmp .ge 44, 3) := by decide +kernel
theorem dX7_mixPiece_42 : decode cX7_mixPiece 42 = .ok (.iconst 0, 1) := by decide +kernel
theorem dX7_mixPiece_43 : decode cX7_mixPiece 43 = .ok (.istore_n 3, 1) := by decide +kernel
theorem dX7_mixPiece_44 : decode cX7_mixPiece 44 = .ok (.iload_n 3, 1) := by decide +kernel
theorem dX7_mixPiece_45 : decode cX7_mixPiece 45 = .ok (.iconst 3, 1) := by decide +kernel
theorem dX7_mixPiece_46 : decode cX7_mixPiece 46 = .ok (.if_icmp .ge 21, 3) := by decide +kernel
theorem dX7_mixPiece_49 : decode cX7_mixPiece 49 = .ok (.aload_n 0, 1) := by decide +kernel
theorem dX7_mixPiece_50 : decode cX7_mixPiece 50 = .ok (.aload_n 0, 1) := by decide +kernel
theorem dX7_mixPiece_51 : decode cX7_mixPiece 51 = .ok (.iload_n 1, 1) := by decide +kernel
theorem dX7_mixPiece_52 : decode cX7_mixPiece 52 = .ok (.iload_n 2, 1) := by decide +kernel
theorem dX7_mixPiece_53 : decode cX7_mixPiece 53 = .ok (.iload_n 3, 1) := by decide +kernel
theorem dX7_mixPiece_54 : decode cX7_mixPiece 54 = .ok (.invokevirtual 200, 3) := by decide +kernel
theorem dX7_mixPiece_57 : decode cX7_mixPiece 57 = .ok (.i2l, 1) := by decide +kernel
theorem dX7_mixPiece_58 : decode cX7_mixPiece 58 = .ok (.invokevirtual 252, 3) := by decide +kernel
theorem dX7_mixPiece_61 : decode cX7_mixPiece 61 = .ok (.iinc 3 1, 3) := by decide +kernel
theorem dX7_mixPiece_64 : decode cX7_mixPiece 64 = .ok (.goto (-20), 3) := by decide +kernel
theorem dX7_mixPiece_67 : decode cX7_mixPiece 67 = .ok (.aload_n 0, 1) := by decide +kernel
theorem dX7_mixPiece_68 : decode cX7_mixPiece 68 = .ok (.aload_n 0, 1) := by decide +kernel
theorem dX7_mixPiece_69 : decode cX7_mixPiece 69 = .ok (.iload_n 2, 1) := by decide +kernel
theorem dX7_mixPiece_70 : decode cX7_mixPiece 70 = .ok (.invokevirtual 236, 3) := by decide +kernel
theorem dX7_mixPiece_73 : decode cX7_mixPiece 73 = .ok (.i2l, 1) := by decide +kernel
theorem dX7_mixPiece_74 : decode cX7_mixPiece 74 = .ok (.invokevirtual 252, 3) := by decide +kernel
theorem dX7_mixPiece_77 : decode cX7_mixPiece 77 = .ok (.iinc 2 1, 3) := by decide +kernel
theorem dX7_mixPiece_80 : decode cX7_mixPiece 80 = .ok (.goto (-48), 3) := by decide +kernel
theorem dX7_mixPiece_83 : decode cX7_mixPiece 83 = .ok (.return_, 1) := by decide +kernel
theorem dX7_digest_0 : decode cX7_digest 0 = .ok (.aload_n 0, 1) := by decide +kernel
theorem dX7_digest_1 : decode cX7_digest 1 = .ok (.iconst 0, 1) := by decide +kernel
theorem dX7_digest_2 : decode cX7_digest 2 = .ok (.putfield 40, 3) := by decide +kernel
theorem dX7_digest_5 : decode cX7_digest 5 = .ok (.aload_n 0, 1) := by decide +kernel
theorem dX7_digest_6 : decode cX7_digest 6 = .ok (.ldc2_w 256, 3) := by decide +kernel
theorem dX7_digest_9 : decode cX7_digest 9 = .ok (.putfield 248, 3) := by decide +kernel
theorem dX7_digest_12 : decode cX7_digest 12 = .ok (.iconst 0, 1) := by decide +kernel
theorem dX7_digest_13 : decode cX7_digest 13 = .ok (.istore_n 1, 1) := by decide +kernel
theorem dX7_digest_14 : decode cX7_digest 14 = .ok (.iload_n 1, 1) := by decide +kernel
theorem dX7_digest_15 : decode cX7_digest 15 = .ok (.bipush 14, 2) := by decide +kernel
theorem dX7_digest_17 : decode cX7_digest 17 = .ok (.if_icmp .ge 19, 3) := by decide +kernel
theorem dX7_digest_20 : decode cX7_digest 20 = .ok (.aload_n 0, 1) := by decide +kernel
theorem dX7_digest_21 : decode cX7_digest 21 = .ok (.aload_n 0, 1) := by decide +kernel
theorem dX7_digest_22 : decode cX7_digest 22 = .ok (.iload_n 1, 1) := by decide +kernel
theorem dX7_digest_23 : decode cX7_digest 23 = .ok (.invokevirtual 212, 3) := by decide +kernel
theorem dX7_digest_26 : decode cX7_digest 26 = .ok (.i2l, 1) := by decide +kernel
theorem dX7_digest_27 : decode cX7_digest 27 = .ok (.invokevirtual 252, 3) := by decide +kernel
theorem dX7_digest_30 : decode cX7_digest 30 = .ok (.iinc 1 1, 3) := by decide +kernel
theorem dX7_digest_33 : decode cX7_digest 33 = .ok (.goto (-19), 3) := by decide +kernel
theorem dX7_digest_36 : decode cX7_digest 36 = .ok (.iconst 0, 1) := by decide +kernel
theorem dX7_digest_37 : decode cX7_digest 37 = .ok (.istore_n 1, 1) := by decide +kernel
theorem dX7_digest_38 : decode cX7_digest 38 = .ok (.iload_n 1, 1) := by decide +kernel
theorem dX7_digest_39 : decode cX7_digest 39 = .ok (.bipush 6, 2) := by decide +kernel
theorem dX7_digest_41 : decode cX7_digest 41 = .ok (.if_icmp .ge 23, 3) := by decide +kernel
theorem dX7_digest_44 : decode cX7_digest 44 = .ok (.aload_n 0, 1) := by decide +kernel
theorem dX7_digest_45 : decode cX7_digest 45 = .ok (.aload_n 0, 1) := by decide +kernel
theorem dX7_digest_46 : decode cX7_digest 46 = .ok (.getfield 7, 3) := by decide +kernel
theorem dX7_digest_49 : decode cX7_digest 49 = .ok (.bipush 8, 2) := by decide +kernel
theorem dX7_digest_51 : decode cX7_digest 51 = .ok (.iload_n 1, 1) := by decide +kernel
theorem dX7_digest_52 : decode cX7_digest 52 = .ok (.iadd, 1) := by decide +kernel
theorem dX7_digest_53 : decode cX7_digest 53 = .ok (.iaload, 1) := by decide +kernel
theorem dX7_digest_54 : decode cX7_digest 54 = .ok (.i2l, 1) := by decide +kernel
theorem dX7_digest_55 : decode cX7_digest 55 = .ok (.invokevirtual 252, 3) := by decide +kernel
theorem dX7_digest_58 : decode cX7_digest 58 = .ok (.iinc 1 1, 3) := by decide +kernel
theorem dX7_digest_61 : decode cX7_digest 61 = .ok (.goto (-23), 3) := by decide +kernel
theorem dX7_digest_64 : decode cX7_digest 64 = .ok (.iconst 0, 1) := by decide +kernel
theorem dX7_digest_65 : decode cX7_digest 65 = .ok (.istore_n 1, 1) := by decide +kernel
theorem dX7_digest_66 : decode cX7_digest 66 = .ok (.iload_n 1, 1) := by decide +kernel
theorem dX7_digest_67 : decode cX7_digest 67 = .ok (.aload_n 0, 1) := by decide +kernel
theorem dX7_digest_68 : decode cX7_digest 68 = .ok (.getfield 7, 3) := by decide +kernel
theorem dX7_digest_71 : decode cX7_digest 71 = .ok (.iconst 0, 1) := by decide +kernel
theorem dX7_digest_72 : decode cX7_digest 72 = .ok (.iaload, 1) := by decide +kernel
theorem dX7_digest_73 : decode cX7_digest 73 = .ok (.if_icmp .ge 46, 3) := by decide +kernel
theorem dX7_digest_76 : decode cX7_digest 76 = .ok (.iconst 0, 1) := by decide +kernel
theorem dX7_digest_77 : decode cX7_digest 77 = .ok (.istore_n 2, 1) := by decide +kernel
theorem dX7_digest_78 : decode cX7_digest 78 = .ok (.iload_n 2, 1) := by decide +kernel
theorem dX7_digest_79 : decode cX7_digest 79 = .ok (.bipush 9, 2) := by decide +kernel
theorem dX7_digest_81 : decode cX7_digest 81 = .ok (.if_icmp .ge 20, 3) := by decide +kernel
theorem dX7_digest_84 : decode cX7_digest 84 = .ok (.aload_n 0, 1) := by decide +kernel
theorem dX7_digest_85 : decode cX7_digest 85 = .ok (.aload_n 0, 1) := by decide +kernel
theorem dX7_digest_86 : decode cX7_digest 86 = .ok (.iload_n 1, 1) := by decide +kernel
theorem dX7_digest_87 : decode cX7_digest 87 = .ok (.iload_n 2, 1) := by decide +kernel
theorem dX7_digest_88 : decode cX7_digest 88 = .ok (.invokevirtual 188, 3) := by decide +kernel
theorem dX7_digest_91 : decode cX7_digest 91 = .ok (.i2l, 1) := by decide +kernel
theorem dX7_digest_92 : decode cX7_digest 92 = .ok (.invokevirtual 252, 3) := by decide +kernel
theorem dX7_digest_95 : decode cX7_digest 95 = .ok (.iinc 2 1, 3) := by decide +kernel
theorem dX7_digest_98 : decode cX7_digest 98 = .ok (.goto (-20), 3) := by decide +kernel
theorem dX7_digest_101 : decode cX7_digest 101 = .ok (.aload_n 0, 1) := by decide +kernel
theorem dX7_digest_102 : decode cX7_digest 102 = .ok (.aload_n 0, 1) := by decide +kernel
theorem dX7_digest_103 : decode cX7_digest 103 = .ok (.iload_n 1, 1) := by decide +kernel
theorem dX7_digest_104 : decode cX7_digest 104 = .ok (.bipush 100, 2) := by decide +kernel
theorem dX7_digest_106 : decode cX7_digest 106 = .ok (.invokevirtual 239, 3) := by decide +kernel
theorem dX7_digest_109 : decode cX7_digest 109 = .ok (.i2l, 1) := by decide +kernel
theorem dX7_digest_110 : decode cX7_digest 110 = .ok (.invokevirtual 252, 3) := by decide +kernel
theorem dX7_digest_113 : decode cX7_digest 113 = .ok (.iinc 1 1, 3) := by decide +kernel
theorem dX7_digest_116 : decode cX7_digest 116 = .ok (.goto (-50), 3) := by decide +kernel
theorem dX7_digest_119 : decode cX7_digest 119 = .ok (.iconst 0, 1) := by decide +kernel
theorem dX7_digest_120 : decode cX7_digest 120 = .ok (.istore_n 1, 1) := by decide +kernel
theorem dX7_digest_121 : decode cX7_digest 121 = .ok (.iload_n 1, 1) := by decide +kernel
theorem dX7_digest_122 : decode cX7_digest 122 = .ok (.aload_n 0, 1) := by decide +kernel
theorem dX7_digest_123 : decode cX7_digest 123 = .ok (.getfield 7, 3) := by decide +kernel
theorem dX7_digest_126 : decode cX7_digest 126 = .ok (.iconst 1, 1) := by decide +kernel
theorem dX7_digest_127 : decode cX7_digest 127 = .ok (.iaload, 1) := by decide +kernel
theorem dX7_digest_128 : decode cX7_digest 128 = .ok (.if_icmp .ge 14, 3) := by decide +kernel
theorem dX7_digest_131 : decode cX7_digest 131 = .ok (.aload_n 0, 1) := by decide +kernel
theorem dX7_digest_132 : decode cX7_digest 132 = .ok (.iload_n 1, 1) := by decide +kernel
theorem dX7_digest_133 : decode cX7_digest 133 = .ok (.invokevirtual 258, 3) := by decide +kernel
theorem dX7_digest_136 : decode cX7_digest 136 = .ok (.iinc 1 1, 3) := by decide +kernel
theorem dX7_digest_139 : decode cX7_digest 139 = .ok (.goto (-18), 3) := by decide +kernel
theorem dX7_digest_142 : decode cX7_digest 142 = .ok (.aload_n 0, 1) := by decide +kernel
theorem dX7_digest_143 : decode cX7_digest 143 = .ok (.aload_n 0, 1) := by decide +kernel
theorem dX7_digest_144 : decode cX7_digest 144 = .ok (.invokevirtual 242, 3) := by decide +kernel
theorem dX7_digest_147 : decode cX7_digest 147 = .ok (.invokestatic 261, 3) := by decide +kernel
theorem dX7_digest_150 : decode cX7_digest 150 = .ok (.invokevirtual 252, 3) := by decide +kernel
theorem dX7_digest_153 : decode cX7_digest 153 = .ok (.aload_n 0, 1) := by decide +kernel
theorem dX7_digest_154 : decode cX7_digest 154 = .ok (.aload_n 0, 1) := by decide +kernel
theorem dX7_digest_155 : decode cX7_digest 155 = .ok (.getfield 117, 3) := by decide +kernel
theorem dX7_digest_158 : decode cX7_digest 158 = .ok (.i2l, 1) := by decide +kernel
theorem dX7_digest_159 : decode cX7_digest 159 = .ok (.invokevirtual 252, 3) := by decide +kernel
theorem dX7_digest_162 : decode cX7_digest 162 = .ok (.iconst 0, 1) := by decide +kernel
theorem dX7_digest_163 : decode cX7_digest 163 = .ok (.istore_n 1, 1) := by decide +kernel
theorem dX7_digest_164 : decode cX7_digest 164 = .ok (.iload_n 1, 1) := by decide +kernel
theorem dX7_digest_165 : decode cX7_digest 165 = .ok (.aload_n 0, 1) := by decide +kernel
theorem dX7_digest_166 : decode cX7_digest 166 = .ok (.getfield 117, 3) := by decide +kernel
theorem dX7_digest_169 : decode cX7_digest 169 = .ok (.if_icmp .ge 20, 3) := by decide +kernel
theorem dX7_digest_172 : decode cX7_digest 172 = .ok (.aload_n 0, 1) := by decide +kernel
theorem dX7_digest_173 : decode cX7_digest 173 = .ok (.aload_n 0, 1) := by decide +kernel
theorem dX7_digest_174 : decode cX7_digest 174 = .ok (.getfield 19, 3) := by decide +kernel
theorem dX7_digest_177 : decode cX7_digest 177 = .ok (.iload_n 1, 1) := by decide +kernel
theorem dX7_digest_178 : decode cX7_digest 178 = .ok (.iaload, 1) := by decide +kernel
theorem dX7_digest_179 : decode cX7_digest 179 = .ok (.i2l, 1) := by decide +kernel
theorem dX7_digest_180 : decode cX7_digest 180 = .ok (.invokevirtual 252, 3) := by decide +kernel
theorem dX7_digest_183 : decode cX7_digest 183 = .ok (.iinc 1 1, 3) := by decide +kernel
theorem dX7_digest_186 : decode cX7_digest 186 = .ok (.goto (-22), 3) := by decide +kernel
theorem dX7_digest_189 : decode cX7_digest 189 = .ok (.aload_n 0, 1) := by decide +kernel
theorem dX7_digest_190 : decode cX7_digest 190 = .ok (.getfield 248, 3) := by decide +kernel
theorem dX7_digest_193 : decode cX7_digest 193 = .ok (.lreturn, 1) := by decide +kernel
end
section
/-! ===== the layer: memories of whole numbers, cells, worlds ===== -/
abbrev z_M : Type := Nat → Int → Int
def z_I (n : Int) : Value := .int (Int32.ofInt n)
def z_L (n : Int) : Value := .long (Int64.ofInt n)
abbrev z_rg (n : Int) : Prop := -2147483648 ≤ n ∧ n ≤ 2147483647
def z_sM (M : z_M) (a : Nat) (i v : Int) : z_M := fun a' i' => if a' = a ∧ i' = i then v else M a' i'
/-- launch, base address, class numbers and slots, classes of int, long and State arrays, the two static rows -/
abbrev z_G : Type := Launch × Nat × va_G × ClassId × ClassId × ClassId × Nat × Nat
abbrev z_l (G : z_G) : Launch := G.1
abbrev z_b (G : z_G) : Nat := G.2.1
abbrev z_D (G : z_G) : va_G := G.2.2.1
abbrev z_cI (G : z_G) : ClassId := G.2.2.2.1
abbrev z_cL (G : z_G) : ClassId := G.2.2.2.2.1
abbrev z_cR (G : z_G) : ClassId := G.2.2.2.2.2.1
abbrev z_fs (G : z_G) : Nat := G.2.2.2.2.2.2.1
abbrev z_gs (G : z_G) : Nat := G.2.2.2.2.2.2.2
def z_A (G : z_G) : Nat → Prop := fun q => z_b G ≤ q
/-- the place of a cell: kinds 0..17 are a state's (g: its number), 20..34 the class's own, 40..50 the reference's, 60 the law's row of answers -/
def z_of (g k : Nat) : Nat := if k < 18 then 15 + 18 * g + k else if k < 40 then k - 20 else if k < 60 then 101 + k else 152
def z_ad (G : z_G) (g k : Nat) : Nat := z_b G + z_of g k
abbrev z_dm (g k : Nat) : Prop := (k < 18 ∧ g < 7) ∨ (g = 0 ∧ ((20 ≤ k ∧ k < 35) ∨ (40 ≤ k ∧ k < 51) ∨ k = 60))
theorem z_of_inj {g k g' k' : Nat} (h : z_dm g k) (h' : z_dm g' k') (e : z_of g k = z_of g' k') : g = g' ∧ k = k' := by
  unfold z_of at e
  unfold z_dm at h h'
  (repeat' split at e) <;> omega
theorem z_ad_inj {G : z_G} {g k g' k' : Nat} (h : z_dm g k) (h' : z_dm g' k') (e : z_ad G g k = z_ad G g' k') : g = g' ∧ k = k' := by
  unfold z_ad at e
  exact z_of_inj h h' (by omega)
/-- a slot: 0, an int at a place of the memory; 1, a reference to a cell; 2, a reference to the state whose number stands at a place; 3, a long at a place -/
abbrev z_F : Type := Nat × Nat × Int
def z_fv (G : z_G) (M : z_M) (f : z_F) : Value := match f with
  | (0, a, i) => z_I (M a i)
  | (1, g, k) => .ref (z_ad G g k.toNat)
  | (2, a, i) => .ref (z_ad G (M a i).toNat 0)
  | (_, a, i) => z_L (M a i)
/-- objects: number of the class, slots -/
def z_ob (g k : Nat) : Option (Nat × List z_F) := match k with
  | 0 => some (5, [(1, g, 1), (1, g, 8), (1, g, 17), (0, g, 2), (0, g, 3), (0, g, 4), (0, g, 7), (0, g, 6)])
  | 1 => some (3, [(0, g, 0), (1, g, 2), (1, g, 3), (1, g, 4), (1, g, 5), (1, g, 6), (1, g, 7)])
  | 8 => some (4, [(0, g, 1), (1, g, 9), (1, g, 10), (1, g, 11), (1, g, 12), (1, g, 13), (1, g, 14), (1, g, 15), (1, g, 16)])
  | 20 => some (6, [(1, 0, 21), (0, 7, 0), (0, 7, 1), (2, 7, 2), (1, 0, 22), (1, 0, 25), (1, 0, 28), (1, 0, 33), (1, 0, 34)])
  | 22 => some (2, [(1, 0, 23), (0, 7, 3), (1, 0, 24), (0, 7, 4), (0, 7, 5), (0, 7, 6), (0, 7, 7)])
  | 25 => some (0, [(0, 7, 8), (0, 7, 9), (0, 7, 10), (0, 7, 11), (1, 0, 26), (1, 0, 27)])
  | 28 => some (1, [(1, 0, 29), (1, 0, 30), (1, 0, 31), (1, 0, 32), (0, 7, 12), (0, 7, 13)])
  | 40 => some (7, [(1, 0, 41), (1, 0, 42), (1, 0, 43), (1, 0, 44), (1, 0, 45), (1, 0, 46), (1, 0, 47), (1, 0, 48), (1, 0, 49), (1, 0, 50), (0, 21, 0), (0, 21, 1), (0, 21, 2), (0, 21, 3), (0, 21, 4), (0, 21, 5), (0, 21, 6), (0, 21, 7), (0, 21, 8), (0, 21, 9), (3, 20, 0)])
  | _ => none
/-- arrays: 0 of ints, 3 of longs, 4 the row of states; memory row, length, where element j stands -/
def z_al (g k : Nat) : Option (Nat × Nat × Nat × (Int → Int)) := match k with
  | 2 => some (0, g, 12, fun p => 14 + 6 * p)
  | 3 => some (0, g, 12, fun p => 14 + 6 * p + 1)
  | 4 => some (0, g, 12, fun p => 14 + 6 * p + 2)
  | 5 => some (0, g, 12, fun p => 14 + 6 * p + 3)
  | 6 => some (0, g, 12, fun p => 14 + 6 * p + 4)
  | 7 => some (0, g, 12, fun p => 14 + 6 * p + 5)
  | 9 => some (0, g, 20, fun p => 86 + 5 * p)
  | 10 => some (0, g, 20, fun p => 86 + 5 * p + 1)
  | 11 => some (0, g, 20, fun p => 86 + 5 * p + 2)
  | 12 => some (0, g, 20, fun p => 86 + 5 * p + 3)
  | 13 => some (0, g, 20, fun p => 86 + 5 * p + 4)
  | 14 => some (0, g, 240, fun p => 426 + p)
  | 15 => some (0, g, 240, fun p => 186 + p)
  | 16 => some (0, g, 240, fun p => 666 + p)
  | 17 => some (0, g, 6, fun p => 8 + p)
  | 21 => some (4, 99, 7, fun p => p)
  | 23 => some (0, 8, 60, fun p => p)
  | 24 => some (0, 9, 12, fun p => p)
  | 26 => some (0, 10, 12, fun p => p)
  | 27 => some (0, 11, 12, fun p => p)
  | 29 => some (0, 12, 12, fun p => p)
  | 30 => some (0, 13, 4, fun p => p)
  | 31 => some (0, 14, 4, fun p => p)
  | 32 => some (0, 15, 4, fun p => p)
  | 33 => some (0, 16, 12, fun p => p)
  | 34 => some (0, 17, 12, fun p => p)
  | 41 => some (0, 22, 906, fun p => p)
  | 42 => some (0, 23, 906, fun p => p)
  | 43 => some (0, 24, 5436, fun p => p)
  | 44 => some (0, 25, 60, fun p => p)
  | 45 => some (0, 26, 12, fun p => p)
  | 46 => some (0, 27, 12, fun p => p)
  | 47 => some (0, 28, 12, fun p => p)
  | 48 => some (0, 29, 4, fun p => p)
  | 49 => some (0, 30, 4, fun p => p)
  | 50 => some (0, 31, 4, fun p => p)
  | 60 => some (3, 32, 1, fun p => p)
  | _ => none
def z_ac (G : z_G) (t : Nat) : ClassId := if t = 0 then z_cI G else if t = 3 then z_cL G else z_cR G
def z_ev (G : z_G) (M : z_M) (t a : Nat) (ix : Int → Int) (j : Nat) : Value := if t = 0 then z_I (M a (ix j)) else if t = 3 then z_L (M a (ix j)) else .ref (z_ad G j 0)
/-- a cell of the world -/
def z_hold (G : z_G) (M : z_M) (H : Heap) (g k : Nat) : Prop :=
  (∀ ci fs, z_ob g k = some (ci, fs) → t_OB (z_ad G g k) ((z_D G).1 ci) fs.length ((z_D G).2 ci) H (fun j => z_fv G M (fs.getD j (0, 0, 0)))) ∧
  (∀ t a n ix, z_al g k = some (t, a, n, ix) → H[z_ad G g k]? = some (arrV (z_ac G t) n (z_ev G M t a ix)))
def z_Wd (G : z_G) (M : z_M) (H : Heap) : Prop := z_b G + 153 ≤ H.size ∧ (∀ (a : Nat) (i : Int), a ≠ 20 → z_rg (M a i)) ∧ ∀ g k, z_dm g k → z_hold G M H g k
/-- whose slot a place of the memory is -/
def z_ow (a : Nat) (i : Int) : Nat × Nat :=
  if a < 7 then (a, if i = 0 then 1 else if i = 1 then 8 else if i < 8 then 0 else if i < 14 then 17 else if i < 86 then 2 + ((i - 14) % 6).toNat else if i < 186 then 9 + ((i - 86) % 5).toNat else if i < 426 then 15 else if i < 666 then 14 else 16)
  else if a = 7 then (0, if i < 3 then 20 else if i < 8 then 22 else if i < 12 then 25 else 28)
  else if a < 10 then (0, a + 15) else if a < 12 then (0, a + 16) else if a < 18 then (0, a + 17) else if a < 22 then (0, 40) else if a < 32 then (0, a + 19) else (0, 60)
theorem z_owA {g k : Nat} (hd : z_dm g k) {t a n : Nat} {ix : Int → Int} (h : z_al g k = some (t, a, n, ix)) (ht : t ≠ 4) (j : Nat) (hj : j < n) : z_ow a (ix j) = (g, k) := by
  have hg : 0 < k → k < 18 → g < 7 := fun _ _ => by unfold z_dm at hd; omega
  have hg0 : 18 ≤ k → g = 0 := fun _ => by unfold z_dm at hd; omega
  unfold z_al at h
  split at h <;> cases h <;> first
    | exact absurd rfl ht
    | (have hg := hg0 (by decide); subst hg; rfl)
    | (have hg := hg (by decide) (by decide)
       show z_ow _ _ = _
       dsimp only
       rw [z_ow, if_pos hg]
       congr 1
       first
         | (rw [if_neg (by omega), if_neg (by omega), if_neg (by omega), if_pos (by omega)]; done)
         | (rw [if_neg (by omega), if_neg (by omega), if_neg (by omega), if_neg (by omega), if_pos (by omega)]; omega)
         | (rw [if_neg (by omega), if_neg (by omega), if_neg (by omega), if_neg (by omega), if_neg (by omega), if_pos (by omega)]; omega)
         | (rw [if_neg (by omega), if_neg (by omega), if_neg (by omega), if_neg (by omega), if_neg (by omega), if_neg (by omega), if_pos (by omega)]; done)
         | (rw [if_neg (by omega), if_neg (by omega), if_neg (by omega), if_neg (by omega), if_neg (by omega), if_neg (by omega), if_neg (by omega), if_pos (by omega)]; done)
         | (rw [if_neg (by omega), if_neg (by omega), if_neg (by omega), if_neg (by omega), if_neg (by omega), if_neg (by omega), if_neg (by omega), if_neg (by omega)]; done))
theorem z_owO {g k : Nat} (hd : z_dm g k) {ci : Nat} {fs : List z_F} (h : z_ob g k = some (ci, fs)) (j : Nat) {t a : Nat} {i : Int} (hf : fs[j]? = some (t, a, i)) (ht : t ≠ 1) : z_ow a i = (g, k) := by
  have hg : k < 18 → g < 7 := fun _ => by unfold z_dm at hd; omega
  have hg0 : 18 ≤ k → g = 0 := fun _ => by unfold z_dm at hd; omega
  have hm := List.mem_of_getElem? hf
  unfold z_ob at h
  split at h <;> cases h <;> simp only [List.mem_cons, Prod.mk.injEq, List.not_mem_nil, or_false] at hm
  all_goals first
    | (have hg := hg0 (by decide); subst hg; (rcases hm with hm | hm | hm | hm | hm | hm | hm | hm | hm | hm | hm | hm | hm | hm | hm | hm | hm | hm | hm | hm | hm) <;> (obtain ⟨rfl, rfl, rfl⟩ := hm) <;> first | exact absurd rfl ht | rfl)
    | (have hg := hg0 (by decide); subst hg; (rcases hm with hm | hm | hm | hm | hm | hm | hm | hm | hm) <;> (obtain ⟨rfl, rfl, rfl⟩ := hm) <;> first | exact absurd rfl ht | rfl)
    | (have hg := hg0 (by decide); subst hg; (rcases hm with hm | hm | hm | hm | hm | hm | hm) <;> (obtain ⟨rfl, rfl, rfl⟩ := hm) <;> first | exact absurd rfl ht | rfl)
    | (have hg := hg0 (by decide); subst hg; (rcases hm with hm | hm | hm | hm | hm | hm) <;> (obtain ⟨rfl, rfl, rfl⟩ := hm) <;> first | exact absurd rfl ht | rfl)
    | (have hg := hg (by decide); (rcases hm with hm | hm | hm | hm | hm | hm | hm | hm | hm) <;> (obtain ⟨rfl, rfl, rfl⟩ := hm) <;> first | exact absurd rfl ht | (rw [z_ow, if_pos hg]; rfl))
    | (have hg := hg (by decide); (rcases hm with hm | hm | hm | hm | hm | hm | hm | hm) <;> (obtain ⟨rfl, rfl, rfl⟩ := hm) <;> first | exact absurd rfl ht | (rw [z_ow, if_pos hg]; rfl))
    | (have hg := hg (by decide); (rcases hm with hm | hm | hm | hm | hm | hm | hm) <;> (obtain ⟨rfl, rfl, rfl⟩ := hm) <;> first | exact absurd rfl ht | (rw [z_ow, if_pos hg]; rfl))
theorem z_al_inj {g k t a n : Nat} {ix : Int → Int} (h : z_al g k = some (t, a, n, ix)) (j j' : Nat) (e : ix j = ix j') : j = j' := by
  unfold z_al at h
  split at h <;> cases h <;> dsimp only at e <;> omega
def z_okl (l : List z_F) : Bool := (List.range l.length).all fun j => (List.range l.length).all fun j' => j == j' || (match l[j]?, l[j']? with
  | some (t, a, i), some (t', a', i') => t == 1 || t' == 1 || !(a == a' && i == i')
  | _, _ => true)
theorem z_okl_use {l : List z_F} (h : z_okl l = true) {j j' t t' a : Nat} {i : Int} (h1 : l[j]? = some (t, a, i)) (h2 : l[j']? = some (t', a, i)) (ht : t ≠ 1) (ht' : t' ≠ 1) : j = j' := by
  have l1 := (List.getElem?_eq_some_iff.mp h1).1
  have l2 := (List.getElem?_eq_some_iff.mp h2).1
  unfold z_okl at h
  have h3 := List.all_eq_true.mp (List.all_eq_true.mp h j (List.mem_range.mpr l1)) j' (List.mem_range.mpr l2)
  rw [h1, h2] at h3
  simpa [ht, ht'] using h3
theorem z_ob_inj {g k : Nat} (hd : z_dm g k) {ci : Nat} {fs : List z_F} (h : z_ob g k = some (ci, fs)) : z_okl fs = true := by
  have hg : k < 18 → g < 7 := fun _ => by unfold z_dm at hd; omega
  have hg0 : 18 ≤ k → g = 0 := fun _ => by unfold z_dm at hd; omega
  unfold z_ob at h
  split at h <;> cases h
  all_goals first
    | (have hg := hg0 (by decide); subst hg; decide +kernel)
    | (have hg := hg (by decide)
       rcases (show g = 0 ∨ g = 1 ∨ g = 2 ∨ g = 3 ∨ g = 4 ∨ g = 5 ∨ g = 6 by omega) with rfl | rfl | rfl | rfl | rfl | rfl | rfl <;> decide +kernel)
theorem z_fv_eq {G : z_G} {M M' : z_M} {t a : Nat} {i : Int} (h : t ≠ 1 → M a i = M' a i) : z_fv G M (t, a, i) = z_fv G M' (t, a, i) := by
  match t, h with
  | 0, h => show z_I _ = z_I _; rw [h (by decide)]
  | 1, _ => rfl
  | 2, h => show Value.ref (z_ad G (M a i).toNat 0) = Value.ref (z_ad G (M' a i).toNat 0); rw [h (by decide)]
  | _ + 3, h => show z_L _ = z_L _; rw [h (by omega)]
theorem z_ev_eq {G : z_G} {M M' : z_M} {t a : Nat} {ix : Int → Int} {j : Nat} (h : t ≠ 4 → M a (ix j) = M' a (ix j)) : z_ev G M t a ix j = z_ev G M' t a ix j := by
  unfold z_ev
  by_cases h4 : t = 4
  · subst h4; rfl
  · rw [h h4]
theorem z_arrV_eq {cA : ClassId} {n : Nat} {f f' : Nat → Value} (h : ∀ j, j < n → f j = f' j) : arrV cA n f = arrV cA n f' := by
  unfold arrV
  have e : (fun j : Fin n => f j.val) = fun j : Fin n => f' j.val := funext fun j => h j.val j.isLt
  rw [e]
theorem z_al_t {g k t a n : Nat} {ix : Int → Int} (h : z_al g k = some (t, a, n, ix)) : t = 0 ∨ t = 3 ∨ t = 4 := by
  unfold z_al at h
  split at h <;> cases h <;> simp
theorem z_hold_move {G : z_G} {M M' : z_M} {H H' : Heap} {g k : Nat} (hd : z_dm g k) (hM : ∀ a i, z_ow a i = (g, k) → M a i = M' a i) (hH : H'[z_ad G g k]? = H[z_ad G g k]?) (h : z_hold G M H g k) : z_hold G M' H' g k := by
  refine ⟨fun ci fs ho => ?_, fun t a n ix ha => ?_⟩
  · refine ((h.1 ci fs ho).kept hH).to fun j hj => ?_
    have e : fs[j]? = some fs[j] := List.getElem?_eq_getElem hj
    rw [List.getD_eq_getElem?_getD, e]
    rcases hf : fs[j] with ⟨t, a, i⟩
    exact z_fv_eq fun ht => hM a i (z_owO hd ho j (by rw [e, hf]) ht)
  · rw [hH, h.2 t a n ix ha]
    congr 1
    exact z_arrV_eq fun j hj => z_ev_eq fun ht => hM _ _ (z_owA hd ha ht j hj)
theorem z_Wd_put {G : z_G} {M : z_M} {H H' : Heap} {g k a : Nat} {i v : Int} (hW : z_Wd G M H) (hd : z_dm g k) (hz : H'.size = H.size) (oq : ∀ q, q ≠ z_ad G g k → H'[q]? = H[q]?) (hrg : a ≠ 20 → z_rg v) (how : z_ow a i = (g, k)) (hnew : z_hold G (z_sM M a i v) H' g k) : z_Wd G (z_sM M a i v) H' := by
  refine ⟨by rw [hz]; exact hW.1, fun a' i' ha => ?_, fun g' k' hd' => ?_⟩
  · unfold z_sM
    split
    · rename_i h
      exact hrg (by rw [← h.1]; exact ha)
    · exact hW.2.1 a' i' ha
  · by_cases hgk : g' = g ∧ k' = k
    · obtain ⟨rfl, rfl⟩ := hgk
      exact hnew
    · refine z_hold_move (M := M) hd' (fun a' i' ho => ?_) (oq _ fun e => hgk (z_ad_inj hd' hd e)) (hW.2.2 g' k' hd')
      unfold z_sM
      rw [if_neg]
      rintro ⟨rfl, rfl⟩
      rw [how] at ho
      cases ho
      exact hgk ⟨rfl, rfl⟩
theorem z_Wd_keep {G : z_G} {M : z_M} {H H' : Heap} (hW : z_Wd G M H) (hz : H.size ≤ H'.size) (oq : ∀ q, q < H.size → H'[q]? = H[q]?) : z_Wd G M H' := by
  refine ⟨Nat.le_trans hW.1 hz, hW.2.1, fun g k hd => z_hold_move (M := M) hd (fun _ _ _ => rfl) (oq _ ?_) (hW.2.2 g k hd)⟩
  have h1 := hW.1
  have h2 : z_of g k < 153 := by
    unfold z_dm at hd
    unfold z_of
    (repeat' split) <;> omega
  unfold z_ad
  omega
theorem z_lt {G : z_G} {M : z_M} {H : Heap} (hW : z_Wd G M H) {g k : Nat} (hd : z_dm g k) : z_ad G g k < H.size := by
  have h1 := hW.1
  have h2 : z_of g k < 153 := by
    unfold z_dm at hd
    unfold z_of
    (repeat' split) <;> omega
  unfold z_ad
  omega
theorem z_in {G : z_G} (g k : Nat) : z_A G (z_ad G g k) := Nat.le_add_right _ _
/-- pure: Int32 and Int -/
theorem z_toI {n : Int} (h : z_rg n) : (Int32.ofInt n).toInt = n := Int32.toInt_ofInt_of_le (by have := h.1; omega) (by have := h.2; omega)
theorem z_clamp {n : Int} (h0 : 0 ≤ n) (h1 : n ≤ 2147483647) : (Int32.ofInt n).toNatClampNeg = n.toNat := by
  rw [← Int32.toNat_toInt, z_toI ⟨by omega, h1⟩]
theorem z_lt32 {a b : Int} (ha : z_rg a) (hb : z_rg b) : (Int32.ofInt a < Int32.ofInt b) ↔ a < b := by
  rw [Int32.lt_iff_toInt_lt, z_toI ha, z_toI hb]
theorem z_le32 {a b : Int} (ha : z_rg a) (hb : z_rg b) : (Int32.ofInt a ≤ Int32.ofInt b) ↔ a ≤ b := by
  rw [Int32.le_iff_toInt_le, z_toI ha, z_toI hb]
theorem z_eq32 {a b : Int} (ha : z_rg a) (hb : z_rg b) : (Int32.ofInt a = Int32.ofInt b) ↔ a = b := by
  rw [← Int32.toInt_inj, z_toI ha, z_toI hb]
theorem z_vp {i : Int} {n : Nat} (h0 : 0 ≤ i) (h1 : i < n) (hn : n ≤ 2147483647) : ¬ (Int32.ofInt i < 0 ∨ n ≤ (Int32.ofInt i).toNatClampNeg) := by
  have e := z_lt32 (a := i) (b := 0) ⟨by omega, by omega⟩ ⟨by omega, by omega⟩
  rw [z_clamp h0 (by omega)]
  rintro (h | h)
  · have := e.mp h
    omega
  · omega
end
section
/-! ===== words, facts of the tables, the judgement ===== -/
def z_isN (w : Cond) : Bool := match w with
  | .methodLinkNest _ _ _ _ => true
  | .fieldLinkNest _ _ _ _ _ _ => true
  | .castable _ _ => true
  | .declares _ => true
  | _ => false
def z_W : List Cond := lw_tbl.filter (fun w => goodWord w || z_isN w)
theorem z_warmw {w : Cond} (hw : (goodWord w || z_isN w) = true) {s U : State} (hW : s.WarmedH U.vm) (h : w.before #[] s = true) (a : Array Value) : w.before a U = true := by
  rw [Bool.or_eq_true] at hw
  rcases hw with hg | hn
  · exact word_at hW (good_of_word hg) h
  · cases w <;> first
      | exact absurd hn Bool.false_ne_true
      | exact va_Nw.use rfl (va_Nw.warmM hW h)
      | exact va_Nw.use rfl (va_Nw.warmF hW h)
      | exact va_Nw.use rfl (va_Nw.warmC hW h)
      | exact va_Nw.use rfl (va_Nw.warmD hW h)
theorem z_wi {w : Cond} (i : Nat) (h : lw_tbl[i]? = some w) (hg : (goodWord w || z_isN w) = true) : w ∈ z_W := List.mem_filter.mpr ⟨List.mem_of_getElem? h, hg⟩
/-- the texts of the exceptions: class, entry, text -/
def z_S : List (String × Nat × String) := []
def z_first (j : Nat) : Int := match j with | 0 => 10 | 1 => 5 | 2 => 0 | 3 => 10 | 4 => 25 | _ => 50
def z_most (j : Nat) : Int := match j with | 0 => 30 | 1 => 20 | 2 => 10000 | _ => 100
/-- pairs of classes, the first no kind of the second -/
def z_X : List (String × String) := [("java/lang/IllegalStateException", "java/lang/IndexOutOfBoundsException"), ("java/lang/IllegalStateException", "java/lang/IllegalArgumentException"), ("java/lang/IllegalArgumentException", "java/lang/IndexOutOfBoundsException")]
/-- what the tables and the statics say of a state -/
def z_T (G : z_G) (U : State) : Prop :=
  (z_l G).stackTraces = false ∧ (∀ w ∈ z_W, w.before #[] U = true) ∧ va_K (z_D G) vwCl [(z_cI G, .int), (z_cL G, .long), (z_cR G, .object "PenGuild$State")] U ∧
  vx_Zq Bundle.tN "UNASSIGNED_STACK" Bundle.steD (z_A G) U U.heap ∧ vx_Zq Bundle.tN "SUPPRESSED_SENTINEL" Bundle.listD (z_A G) U U.heap ∧
  (va_Z "PenGuild" "FIRST_SETTINGS" "[I" (.ref (z_fs G)) (z_A G) U U.heap ∧ va_T .int (z_fs G) 6 (fun j => z_I (z_first j)) (z_A G) U U.heap) ∧
  (va_Z "PenGuild" "GREATEST_SETTINGS" "[I" (.ref (z_gs G)) (z_A G) U U.heap ∧ va_T .int (z_gs G) 6 (fun j => z_I (z_most j)) (z_A G) U U.heap) ∧
  (∀ q ∈ z_S, ∃ sa, vk_R q.1 q.2.1 q.2.2 sa U) ∧ (∀ q ∈ z_X, va_Nc q.1 q.2 U)
theorem z_T_moved {G : z_G} {s U : State} (h : z_T G s) (hW : s.WarmedH U.vm) (hq : ∀ a : Nat, a < s.heap.size → ¬ z_A G a → U.heap[a]? = s.heap[a]?) : z_T G U := by
  obtain ⟨h1, h2, h3, h4, h5, h6, h7, h8, h9⟩ := h
  have hv := hW.alike
  refine ⟨h1, fun w hw => z_warmw (List.mem_filter.mp hw).2 hW (h2 w hw) #[], va_K.moved hv h3, vx_Zq.kept (vx_Zq.moved hv h4) hq, vx_Zq.kept (vx_Zq.moved hv h5) hq,
    ⟨va_Z.kept (va_Z.moved hv h6.1) hq, va_T.kept (va_T.moved hv h6.2) hq⟩, ⟨va_Z.kept (va_Z.moved hv h7.1) hq, va_T.kept (va_T.moved hv h7.2) hq⟩,
    fun q hq => ?_, fun q hq => va_Nc.moved hv (h9 q hq)⟩
  obtain ⟨sa, h⟩ := h8 q hq
  exact ⟨sa, vk_R.warm hW h⟩
/-- a method's own: program, environment, start, number, arguments, frames below, entry, code -/
abbrev z_Z : Type := Program × Env × State × MethodId × Array Value × List Frame × Method × Code
abbrev z_p (Z : z_Z) : Program := Z.1
abbrev z_e (Z : z_Z) : Env := Z.2.1
abbrev z_s (Z : z_Z) : State := Z.2.2.1
abbrev z_m (Z : z_Z) : MethodId := Z.2.2.2.1
abbrev z_a (Z : z_Z) : Array Value := Z.2.2.2.2.1
abbrev z_w (Z : z_Z) : List Frame := Z.2.2.2.2.2.1
abbrev z_h (Z : z_Z) : Method := Z.2.2.2.2.2.2.1
abbrev z_c (Z : z_Z) : Code := Z.2.2.2.2.2.2.2
/-- bytes, number of locals, class, room, what it returns -/
abbrev z_Md : Type := ByteArray × Nat × String × Room × Option FieldType
abbrev z_cc (d : z_Md) : ByteArray := d.1
abbrev z_nL (d : z_Md) : Nat := d.2.1
abbrev z_own (d : z_Md) : String := d.2.2.1
abbrev z_R (d : z_Md) : Room := d.2.2.2.1
abbrev z_ret (d : z_Md) : Option FieldType := d.2.2.2.2
def z_Ok (G : z_G) (Z : z_Z) (d : z_Md) : Prop :=
  (z_p Z).tables.exec = Jvm.exec ∧ (z_c Z).code = z_cc d ∧ (z_c Z).maxLocals = z_nL d ∧ (z_s Z).vm.findClass (z_own d) = some (z_m Z).cls ∧ (z_h Z).locks = false ∧ (z_h Z).sig.returnType = z_ret d ∧ z_T G (z_s Z)
def z_LH (la : Array Slot) (n : Nat) (ls : List (Option Value)) : Prop := la.size = n ∧ lv_wf la ∧ ∀ (i : Nat) (v : Value), ls[i]? = some (some v) → la[i]? = some (.val v)
def z_J (G : z_G) (Z : z_Z) (d : z_Md) (Q : State → Prop) (pc : Nat) (ls : List (Option Value)) (st : List Value) (M : z_M) (k n : Nat) : Prop :=
  z_Ok G Z d → ∀ (H : Heap) (locs : List Loc) (la : Array Slot), z_Wd G M H → va_S (z_A G) (z_s Z).heap H locs → z_LH la (z_nL d) ls →
    W (z_p Z) (z_l G) (z_e Z) (z_R d) (z_s Z) (z_m Z) (z_a Z) (z_w Z) (z_h Z) (z_c Z) H locs k n Q (F0 (z_m Z) pc la st)
section ZJ
variable {G : z_G} {Z : z_Z} {d : z_Md} {Q : State → Prop} {pc : Nat} {ls : List (Option Value)} {st : List Value} {M : z_M} {k n : Nat}
theorem z_tw {w : Cond} (hO : z_Ok G Z d) (hw : w ∈ z_W) (a : Array Value) : w.before a (z_s Z) = true :=
  z_warmw (List.mem_filter.mp hw).2 (State.WarmedH.refl _) (hO.2.2.2.2.2.2.2.1 w hw) a
end ZJ
end
section
/-! ===== a rule an instruction ===== -/
/-- locals as a list of pairs, for the kit's stores -/
def z_lv (ls : List (Option Value)) : List (Nat × Value) := ls.zipIdx.filterMap (fun q => q.1.map (fun v => (q.2, v)))
theorem z_lv_mem {ls : List (Option Value)} {i : Nat} {v : Value} : (i, v) ∈ z_lv ls ↔ ls[i]? = some (some v) := by
  unfold z_lv
  rw [List.mem_filterMap]
  constructor
  · rintro ⟨⟨o, j⟩, h1, h2⟩
    have h3 := List.mem_zipIdx_iff_getElem?.mp h1
    cases o with
    | none => cases h2
    | some w => cases h2; exact h3
  · intro h
    exact ⟨(some v, i), List.mem_zipIdx_iff_getElem?.mpr h, rfl⟩
theorem z_LH_has {la : Array Slot} {n : Nat} {ls : List (Option Value)} (h : z_LH la n ls) : lv_has la n (z_lv ls) := ⟨h.1, h.2.1, fun q hq => h.2.2 q.1 q.2 (z_lv_mem.mp hq)⟩
def z_c1 (o : Option Value) : Bool := match o with | some v => v.category == 1 | none => true
/-- before slot j no long begins -/
def z_pre (ls : List (Option Value)) (j : Nat) : Bool := match j with | 0 => true | j + 1 => z_c1 ((ls[j]?).getD none)
theorem z_LH_set1 {la : Array Slot} {n j : Nat} {v : Value} {ls : List (Option Value)} (hp : z_pre ls j = true) (h : lv_has la n ((j, v) :: (z_lv ls).filter (fun q => !(q.1 == j) && !(q.1 + 1 == j && q.2.category == 2)))) : z_LH la n (ls.set j (some v)) := by
  refine ⟨h.1, h.2.1, fun i w hi => ?_⟩
  by_cases e : i = j
  · subst e
    have hl : i < ls.length := by have := (List.getElem?_eq_some_iff.mp hi).1; simpa using this
    rw [List.getElem?_set_self hl] at hi
    cases hi
    exact h.2.2 (i, v) List.mem_cons_self
  · rw [List.getElem?_set_ne (Ne.symm e)] at hi
    refine h.2.2 (i, w) (List.mem_cons_of_mem _ (List.mem_filter.mpr ⟨z_lv_mem.mpr hi, ?_⟩))
    have h1 : (i == j) = false := by simpa using e
    have h2 : (i + 1 == j && w.category == 2) = false := by
      by_cases e2 : i + 1 = j
      · subst e2
        have h3 : z_c1 (some w) = true := by
          have : z_pre ls (i + 1) = z_c1 ((ls[i]?).getD none) := rfl
          rw [this, hi] at hp
          exact hp
        have h4 : w.category = 1 := by simpa [z_c1] using h3
        simp [h4]
      · simp [e2]
    simp only [h1, h2, Bool.not_false, Bool.and_self]
theorem z_LH_set2 {la : Array Slot} {n j : Nat} {v : Value} {ls : List (Option Value)} (hp : z_pre ls j = true) (h : lv_has la n ((j, v) :: (z_lv ls).filter (fun q => !(q.1 == j) && (!(q.1 == j + 1) && !(q.1 + 1 == j && q.2.category == 2))))) : z_LH la n ((ls.set j (some v)).set (j + 1) none) := by
  refine ⟨h.1, h.2.1, fun i w hi => ?_⟩
  by_cases e1 : i = j + 1
  · subst e1
    rw [List.getElem?_set] at hi
    simp at hi
  · rw [List.getElem?_set_ne (Ne.symm e1)] at hi
    by_cases e : i = j
    · subst e
      have hl : i < ls.length := by have := (List.getElem?_eq_some_iff.mp hi).1; simpa using this
      rw [List.getElem?_set_self hl] at hi
      cases hi
      exact h.2.2 (i, v) List.mem_cons_self
    · rw [List.getElem?_set_ne (Ne.symm e)] at hi
      refine h.2.2 (i, w) (List.mem_cons_of_mem _ (List.mem_filter.mpr ⟨z_lv_mem.mpr hi, ?_⟩))
      have h1 : (i == j) = false := by simpa using e
      have h0 : (i == j + 1) = false := by simpa using e1
      have h2 : (i + 1 == j && w.category == 2) = false := by
        by_cases e2 : i + 1 = j
        · subst e2
          have h3 : z_c1 (some w) = true := by
            have : z_pre ls (i + 1) = z_c1 ((ls[i]?).getD none) := rfl
            rw [this, hi] at hp
            exact hp
          have h4 : w.category = 1 := by simpa [z_c1] using h3
          simp [h4]
        · simp [e2]
      simp only [h0, h1, h2, Bool.not_false, Bool.and_self]
section ZR
variable {G : z_G} {Z : z_Z} {d : z_Md} {Q : State → Prop} {pc : Nat} {ls : List (Option Value)} {st : List Value} {M : z_M} {k n : Nat}
theorem z_iconst {i : Int} (hd : decode (z_cc d) pc = .ok (.iconst i, 1)) (kk : z_J G Z d Q (pc + 1) ls (z_I i :: st) M k n) : z_J G Z d Q (pc) ls st M k n :=
  fun hO H locs la hW hS hL => lv_iconst hO.1 hO.2.1 hd rfl (kk hO H locs la hW hS hL)
theorem z_bipush {i : Int} (hd : decode (z_cc d) pc = .ok (.bipush i, 2)) (hv : (Int8.ofInt i).toInt32 = Int32.ofInt i) (kk : z_J G Z d Q (pc + 2) ls (z_I i :: st) M k n) : z_J G Z d Q (pc) ls st M k n :=
  fun hO H locs la hW hS hL => lv_bipush hO.1 hO.2.1 hd hv (kk hO H locs la hW hS hL)
theorem z_sipush {i : Int} (hd : decode (z_cc d) pc = .ok (.sipush i, 3)) (hv : (Int16.ofInt i).toInt32 = Int32.ofInt i) (kk : z_J G Z d Q (pc + 3) ls (z_I i :: st) M k n) : z_J G Z d Q (pc) ls st M k n :=
  fun hO H locs la hW hS hL => lv_sipush hO.1 hO.2.1 hd hv (kk hO H locs la hW hS hL)
theorem z_lconst0  (hd : decode (z_cc d) pc = .ok (.lconst 0, 1)) (kk : z_J G Z d Q (pc + 1) ls (z_L 0 :: st) M k n) : z_J G Z d Q (pc) ls st M k n :=
  fun hO H locs la hW hS hL => lv_lconst hO.1 hO.2.1 hd rfl (kk hO H locs la hW hS hL)
theorem z_lconst1  (hd : decode (z_cc d) pc = .ok (.lconst 1, 1)) (kk : z_J G Z d Q (pc + 1) ls (z_L 1 :: st) M k n) : z_J G Z d Q (pc) ls st M k n :=
  fun hO H locs la hW hS hL => lv_lconst hO.1 hO.2.1 hd rfl (kk hO H locs la hW hS hL)
theorem z_ldc {i : Int} {x : Nat} (hw : Cond.constant (z_own d) x (Int32.ofInt i) ∈ z_W) (hd : decode (z_cc d) pc = .ok (.ldc x, 2)) (kk : z_J G Z d Q (pc + 2) ls (z_I i :: st) M k n) : z_J G Z d Q (pc) ls st M k n :=
  fun hO H locs la hW hS hL => lv_ldc hO.1 hO.2.1 hO.2.2.2.1 (z_tw hO hw _) hd (kk hO H locs la hW hS hL)
theorem z_ldc2 {i : Int} {x : Nat} (hw : Cond.constantLong (z_own d) x (Int64.ofInt i) ∈ z_W) (hd : decode (z_cc d) pc = .ok (.ldc2_w x, 3)) (kk : z_J G Z d Q (pc + 3) ls (z_L i :: st) M k n) : z_J G Z d Q (pc) ls st M k n :=
  fun hO H locs la hW hS hL => lv_ldc2 hO.1 hO.2.1 hO.2.2.2.1 (z_tw hO hw _) hd (kk hO H locs la hW hS hL)
theorem z_ldc2d {v : UInt64} {x : Nat} (hw : Cond.constantDouble (z_own d) x v ∈ z_W) (hd : decode (z_cc d) pc = .ok (.ldc2_w x, 3)) (kk : z_J G Z d Q (pc + 3) ls (.double v :: st) M k n) : z_J G Z d Q (pc) ls st M k n :=
  fun hO H locs la hW hS hL => lv_ldc2d hO.1 hO.2.1 hO.2.2.2.1 (z_tw hO hw _) hd (kk hO H locs la hW hS hL)
theorem z_dconst0  (hd : decode (z_cc d) pc = .ok (.dconst 0, 1)) (kk : z_J G Z d Q (pc + 1) ls (.double FP.dconst0 :: st) M k n) : z_J G Z d Q (pc) ls st M k n :=
  fun hO H locs la hW hS hL => lv_dconst0 hO.1 hO.2.1 hd (kk hO H locs la hW hS hL)
theorem z_dconst1  (hd : decode (z_cc d) pc = .ok (.dconst 1, 1)) (kk : z_J G Z d Q (pc + 1) ls (.double FP.dconst1 :: st) M k n) : z_J G Z d Q (pc) ls st M k n :=
  fun hO H locs la hW hS hL => lv_dconst1 hO.1 hO.2.1 hd (kk hO H locs la hW hS hL)
theorem z_iloadn {j : Fin 4} {v : Int} (hd : decode (z_cc d) pc = .ok (.iload_n j, 1)) (hl : ls[(j : Nat)]? = some (some (z_I v))) (kk : z_J G Z d Q (pc + 1) ls ((z_I v) :: st) M k n) : z_J G Z d Q (pc) ls st M k n :=
  fun hO H locs la hW hS hL => lv_iload_n hO.1 hO.2.1 hd rfl (hL.2.2 _ _ hl) (kk hO H locs la hW hS hL)
theorem z_iload {j : Nat} {v : Int} (hd : decode (z_cc d) pc = .ok (.iload j, 2)) (hl : ls[j]? = some (some (z_I v))) (kk : z_J G Z d Q (pc + 2) ls ((z_I v) :: st) M k n) : z_J G Z d Q (pc) ls st M k n :=
  fun hO H locs la hW hS hL => lv_iload hO.1 hO.2.1 hd (hL.2.2 _ _ hl) (kk hO H locs la hW hS hL)
theorem z_aloadn {j : Fin 4} {v : Nat} (hd : decode (z_cc d) pc = .ok (.aload_n j, 1)) (hl : ls[(j : Nat)]? = some (some (.ref v))) (kk : z_J G Z d Q (pc + 1) ls ((.ref v) :: st) M k n) : z_J G Z d Q (pc) ls st M k n :=
  fun hO H locs la hW hS hL => lv_aload_n hO.1 hO.2.1 hd rfl (hL.2.2 _ _ hl) (kk hO H locs la hW hS hL)
theorem z_aload {j : Nat} {v : Nat} (hd : decode (z_cc d) pc = .ok (.aload j, 2)) (hl : ls[j]? = some (some (.ref v))) (kk : z_J G Z d Q (pc + 2) ls ((.ref v) :: st) M k n) : z_J G Z d Q (pc) ls st M k n :=
  fun hO H locs la hW hS hL => lv_aload hO.1 hO.2.1 hd (hL.2.2 _ _ hl) (kk hO H locs la hW hS hL)
theorem z_lloadn {j : Fin 4} {v : Int} (hd : decode (z_cc d) pc = .ok (.lload_n j, 1)) (hl : ls[(j : Nat)]? = some (some (z_L v))) (kk : z_J G Z d Q (pc + 1) ls ((z_L v) :: st) M k n) : z_J G Z d Q (pc) ls st M k n :=
  fun hO H locs la hW hS hL => lv_lload_n hO.1 hO.2.1 hd rfl (hL.2.2 _ _ hl) (kk hO H locs la hW hS hL)
theorem z_lload {j : Nat} {v : Int} (hd : decode (z_cc d) pc = .ok (.lload j, 2)) (hl : ls[j]? = some (some (z_L v))) (kk : z_J G Z d Q (pc + 2) ls ((z_L v) :: st) M k n) : z_J G Z d Q (pc) ls st M k n :=
  fun hO H locs la hW hS hL => lv_lload hO.1 hO.2.1 hd (hL.2.2 _ _ hl) (kk hO H locs la hW hS hL)
theorem z_dloadn {j : Fin 4} {v : UInt64} (hd : decode (z_cc d) pc = .ok (.dload_n j, 1)) (hl : ls[(j : Nat)]? = some (some (.double v))) (kk : z_J G Z d Q (pc + 1) ls ((.double v) :: st) M k n) : z_J G Z d Q (pc) ls st M k n :=
  fun hO H locs la hW hS hL => lv_dload_n hO.1 hO.2.1 hd rfl (hL.2.2 _ _ hl) (kk hO H locs la hW hS hL)
theorem z_dload {j : Nat} {v : UInt64} (hd : decode (z_cc d) pc = .ok (.dload j, 2)) (hl : ls[j]? = some (some (.double v))) (kk : z_J G Z d Q (pc + 2) ls ((.double v) :: st) M k n) : z_J G Z d Q (pc) ls st M k n :=
  fun hO H locs la hW hS hL => lv_dload hO.1 hO.2.1 hd (hL.2.2 _ _ hl) (kk hO H locs la hW hS hL)
theorem z_istoren_g {j : Fin 4} {v : Int} (hd : decode (z_cc d) pc = .ok (.istore_n j, 1)) (hn : (j : Nat) < z_nL d) (hp : z_pre ls (j : Nat) = true) (kk : z_J G Z d Q (pc + 1) (ls.set (j : Nat) (some (z_I v))) st M k n) : z_J G Z d Q (pc) ls ((z_I v) :: st) M k n :=
  fun hO H locs la hW hS hL => lv_istore_n hO.1 hO.2.1 hd rfl (z_LH_has hL) hn rfl (fun la' hl' => kk hO H locs la' hW hS (z_LH_set1 hp hl'))
theorem z_istore_g {j : Nat} {v : Int} (hd : decode (z_cc d) pc = .ok (.istore j, 2)) (hn : j < z_nL d) (hp : z_pre ls j = true) (kk : z_J G Z d Q (pc + 2) (ls.set j (some (z_I v))) st M k n) : z_J G Z d Q (pc) ls ((z_I v) :: st) M k n :=
  fun hO H locs la hW hS hL => lv_istore hO.1 hO.2.1 hd (z_LH_has hL) hn rfl (fun la' hl' => kk hO H locs la' hW hS (z_LH_set1 hp hl'))
theorem z_istoren_0 {v : Int} {a0 : Option Value} {lt : List (Option Value)} (hd : decode (z_cc d) pc = .ok (.istore_n 0, 1)) (hn : 0 < z_nL d) (kk : z_J G Z d Q (pc + 1) (some (z_I v) :: lt) st M k n) : z_J G Z d Q (pc) (a0 :: lt) ((z_I v) :: st) M k n := z_istoren_g hd hn rfl kk
theorem z_istoren_1 {v : Int} {a0 a1 : Option Value} {lt : List (Option Value)} (hd : decode (z_cc d) pc = .ok (.istore_n 1, 1)) (hn : 1 < z_nL d) (hp : z_c1 a0 = true) (kk : z_J G Z d Q (pc + 1) (a0 :: some (z_I v) :: lt) st M k n) : z_J G Z d Q (pc) (a0 :: a1 :: lt) ((z_I v) :: st) M k n := z_istoren_g hd hn hp kk
theorem z_istoren_2 {v : Int} {a0 a1 a2 : Option Value} {lt : List (Option Value)} (hd : decode (z_cc d) pc = .ok (.istore_n 2, 1)) (hn : 2 < z_nL d) (hp : z_c1 a1 = true) (kk : z_J G Z d Q (pc + 1) (a0 :: a1 :: some (z_I v) :: lt) st M k n) : z_J G Z d Q (pc) (a0 :: a1 :: a2 :: lt) ((z_I v) :: st) M k n := z_istoren_g hd hn hp kk
theorem z_istoren_3 {v : Int} {a0 a1 a2 a3 : Option Value} {lt : List (Option Value)} (hd : decode (z_cc d) pc = .ok (.istore_n 3, 1)) (hn : 3 < z_nL d) (hp : z_c1 a2 = true) (kk : z_J G Z d Q (pc + 1) (a0 :: a1 :: a2 :: some (z_I v) :: lt) st M k n) : z_J G Z d Q (pc) (a0 :: a1 :: a2 :: a3 :: lt) ((z_I v) :: st) M k n := z_istoren_g hd hn hp kk
theorem z_istore_4 {v : Int} {a0 a1 a2 a3 a4 : Option Value} {lt : List (Option Value)} (hd : decode (z_cc d) pc = .ok (.istore 4, 2)) (hn : 4 < z_nL d) (hp : z_c1 a3 = true) (kk : z_J G Z d Q (pc + 2) (a0 :: a1 :: a2 :: a3 :: some (z_I v) :: lt) st M k n) : z_J G Z d Q (pc) (a0 :: a1 :: a2 :: a3 :: a4 :: lt) ((z_I v) :: st) M k n := z_istore_g hd hn hp kk
theorem z_istore_5 {v : Int} {a0 a1 a2 a3 a4 a5 : Option Value} {lt : List (Option Value)} (hd : decode (z_cc d) pc = .ok (.istore 5, 2)) (hn : 5 < z_nL d) (hp : z_c1 a4 = true) (kk : z_J G Z d Q (pc + 2) (a0 :: a1 :: a2 :: a3 :: a4 :: some (z_I v) :: lt) st M k n) : z_J G Z d Q (pc) (a0 :: a1 :: a2 :: a3 :: a4 :: a5 :: lt) ((z_I v) :: st) M k n := z_istore_g hd hn hp kk
theorem z_istore_6 {v : Int} {a0 a1 a2 a3 a4 a5 a6 : Option Value} {lt : List (Option Value)} (hd : decode (z_cc d) pc = .ok (.istore 6, 2)) (hn : 6 < z_nL d) (hp : z_c1 a5 = true) (kk : z_J G Z d Q (pc + 2) (a0 :: a1 :: a2 :: a3 :: a4 :: a5 :: some (z_I v) :: lt) st M k n) : z_J G Z d Q (pc) (a0 :: a1 :: a2 :: a3 :: a4 :: a5 :: a6 :: lt) ((z_I v) :: st) M k n := z_istore_g hd hn hp kk
theorem z_istore_7 {v : Int} {a0 a1 a2 a3 a4 a5 a6 a7 : Option Value} {lt : List (Option Value)} (hd : decode (z_cc d) pc = .ok (.istore 7, 2)) (hn : 7 < z_nL d) (hp : z_c1 a6 = true) (kk : z_J G Z d Q (pc + 2) (a0 :: a1 :: a2 :: a3 :: a4 :: a5 :: a6 :: some (z_I v) :: lt) st M k n) : z_J G Z d Q (pc) (a0 :: a1 :: a2 :: a3 :: a4 :: a5 :: a6 :: a7 :: lt) ((z_I v) :: st) M k n := z_istore_g hd hn hp kk
theorem z_istore_8 {v : Int} {a0 a1 a2 a3 a4 a5 a6 a7 a8 : Option Value} {lt : List (Option Value)} (hd : decode (z_cc d) pc = .ok (.istore 8, 2)) (hn : 8 < z_nL d) (hp : z_c1 a7 = true) (kk : z_J G Z d Q (pc + 2) (a0 :: a1 :: a2 :: a3 :: a4 :: a5 :: a6 :: a7 :: some (z_I v) :: lt) st M k n) : z_J G Z d Q (pc) (a0 :: a1 :: a2 :: a3 :: a4 :: a5 :: a6 :: a7 :: a8 :: lt) ((z_I v) :: st) M k n := z_istore_g hd hn hp kk
theorem z_istore_9 {v : Int} {a0 a1 a2 a3 a4 a5 a6 a7 a8 a9 : Option Value} {lt : List (Option Value)} (hd : decode (z_cc d) pc = .ok (.istore 9, 2)) (hn : 9 < z_nL d) (hp : z_c1 a8 = true) (kk : z_J G Z d Q (pc + 2) (a0 :: a1 :: a2 :: a3 :: a4 :: a5 :: a6 :: a7 :: a8 :: some (z_I v) :: lt) st M k n) : z_J G Z d Q (pc) (a0 :: a1 :: a2 :: a3 :: a4 :: a5 :: a6 :: a7 :: a8 :: a9 :: lt) ((z_I v) :: st) M k n := z_istore_g hd hn hp kk
theorem z_istore_10 {v : Int} {a0 a1 a2 a3 a4 a5 a6 a7 a8 a9 a10 : Option Value} {lt : List (Option Value)} (hd : decode (z_cc d) pc = .ok (.istore 10, 2)) (hn : 10 < z_nL d) (hp : z_c1 a9 = true) (kk : z_J G Z d Q (pc + 2) (a0 :: a1 :: a2 :: a3 :: a4 :: a5 :: a6 :: a7 :: a8 :: a9 :: some (z_I v) :: lt) st M k n) : z_J G Z d Q (pc) (a0 :: a1 :: a2 :: a3 :: a4 :: a5 :: a6 :: a7 :: a8 :: a9 :: a10 :: lt) ((z_I v) :: st) M k n := z_istore_g hd hn hp kk
theorem z_istore_11 {v : Int} {a0 a1 a2 a3 a4 a5 a6 a7 a8 a9 a10 a11 : Option Value} {lt : List (Option Value)} (hd : decode (z_cc d) pc = .ok (.istore 11, 2)) (hn : 11 < z_nL d) (hp : z_c1 a10 = true) (kk : z_J G Z d Q (pc + 2) (a0 :: a1 :: a2 :: a3 :: a4 :: a5 :: a6 :: a7 :: a8 :: a9 :: a10 :: some (z_I v) :: lt) st M k n) : z_J G Z d Q (pc) (a0 :: a1 :: a2 :: a3 :: a4 :: a5 :: a6 :: a7 :: a8 :: a9 :: a10 :: a11 :: lt) ((z_I v) :: st) M k n := z_istore_g hd hn hp kk
theorem z_astoren_g {j : Fin 4} {v : Nat} (hd : decode (z_cc d) pc = .ok (.astore_n j, 1)) (hn : (j : Nat) < z_nL d) (hp : z_pre ls (j : Nat) = true) (kk : z_J G Z d Q (pc + 1) (ls.set (j : Nat) (some (.ref v))) st M k n) : z_J G Z d Q (pc) ls ((.ref v) :: st) M k n :=
  fun hO H locs la hW hS hL => lv_astore_n hO.1 hO.2.1 hd rfl (z_LH_has hL) hn rfl (fun la' hl' => kk hO H locs la' hW hS (z_LH_set1 hp hl'))
theorem z_astore_g {j : Nat} {v : Nat} (hd : decode (z_cc d) pc = .ok (.astore j, 2)) (hn : j < z_nL d) (hp : z_pre ls j = true) (kk : z_J G Z d Q (pc + 2) (ls.set j (some (.ref v))) st M k n) : z_J G Z d Q (pc) ls ((.ref v) :: st) M k n :=
  fun hO H locs la hW hS hL => lv_astore hO.1 hO.2.1 hd (z_LH_has hL) hn rfl (fun la' hl' => kk hO H locs la' hW hS (z_LH_set1 hp hl'))
theorem z_astoren_0 {v : Nat} {a0 : Option Value} {lt : List (Option Value)} (hd : decode (z_cc d) pc = .ok (.astore_n 0, 1)) (hn : 0 < z_nL d) (kk : z_J G Z d Q (pc + 1) (some (.ref v) :: lt) st M k n) : z_J G Z d Q (pc) (a0 :: lt) ((.ref v) :: st) M k n := z_astoren_g hd hn rfl kk
theorem z_astoren_1 {v : Nat} {a0 a1 : Option Value} {lt : List (Option Value)} (hd : decode (z_cc d) pc = .ok (.astore_n 1, 1)) (hn : 1 < z_nL d) (hp : z_c1 a0 = true) (kk : z_J G Z d Q (pc + 1) (a0 :: some (.ref v) :: lt) st M k n) : z_J G Z d Q (pc) (a0 :: a1 :: lt) ((.ref v) :: st) M k n := z_astoren_g hd hn hp kk
theorem z_astoren_2 {v : Nat} {a0 a1 a2 : Option Value} {lt : List (Option Value)} (hd : decode (z_cc d) pc = .ok (.astore_n 2, 1)) (hn : 2 < z_nL d) (hp : z_c1 a1 = true) (kk : z_J G Z d Q (pc + 1) (a0 :: a1 :: some (.ref v) :: lt) st M k n) : z_J G Z d Q (pc) (a0 :: a1 :: a2 :: lt) ((.ref v) :: st) M k n := z_astoren_g hd hn hp kk
theorem z_astoren_3 {v : Nat} {a0 a1 a2 a3 : Option Value} {lt : List (Option Value)} (hd : decode (z_cc d) pc = .ok (.astore_n 3, 1)) (hn : 3 < z_nL d) (hp : z_c1 a2 = true) (kk : z_J G Z d Q (pc + 1) (a0 :: a1 :: a2 :: some (.ref v) :: lt) st M k n) : z_J G Z d Q (pc) (a0 :: a1 :: a2 :: a3 :: lt) ((.ref v) :: st) M k n := z_astoren_g hd hn hp kk
theorem z_astore_4 {v : Nat} {a0 a1 a2 a3 a4 : Option Value} {lt : List (Option Value)} (hd : decode (z_cc d) pc = .ok (.astore 4, 2)) (hn : 4 < z_nL d) (hp : z_c1 a3 = true) (kk : z_J G Z d Q (pc + 2) (a0 :: a1 :: a2 :: a3 :: some (.ref v) :: lt) st M k n) : z_J G Z d Q (pc) (a0 :: a1 :: a2 :: a3 :: a4 :: lt) ((.ref v) :: st) M k n := z_astore_g hd hn hp kk
theorem z_astore_5 {v : Nat} {a0 a1 a2 a3 a4 a5 : Option Value} {lt : List (Option Value)} (hd : decode (z_cc d) pc = .ok (.astore 5, 2)) (hn : 5 < z_nL d) (hp : z_c1 a4 = true) (kk : z_J G Z d Q (pc + 2) (a0 :: a1 :: a2 :: a3 :: a4 :: some (.ref v) :: lt) st M k n) : z_J G Z d Q (pc) (a0 :: a1 :: a2 :: a3 :: a4 :: a5 :: lt) ((.ref v) :: st) M k n := z_astore_g hd hn hp kk
theorem z_astore_6 {v : Nat} {a0 a1 a2 a3 a4 a5 a6 : Option Value} {lt : List (Option Value)} (hd : decode (z_cc d) pc = .ok (.astore 6, 2)) (hn : 6 < z_nL d) (hp : z_c1 a5 = true) (kk : z_J G Z d Q (pc + 2) (a0 :: a1 :: a2 :: a3 :: a4 :: a5 :: some (.ref v) :: lt) st M k n) : z_J G Z d Q (pc) (a0 :: a1 :: a2 :: a3 :: a4 :: a5 :: a6 :: lt) ((.ref v) :: st) M k n := z_astore_g hd hn hp kk
theorem z_astore_7 {v : Nat} {a0 a1 a2 a3 a4 a5 a6 a7 : Option Value} {lt : List (Option Value)} (hd : decode (z_cc d) pc = .ok (.astore 7, 2)) (hn : 7 < z_nL d) (hp : z_c1 a6 = true) (kk : z_J G Z d Q (pc + 2) (a0 :: a1 :: a2 :: a3 :: a4 :: a5 :: a6 :: some (.ref v) :: lt) st M k n) : z_J G Z d Q (pc) (a0 :: a1 :: a2 :: a3 :: a4 :: a5 :: a6 :: a7 :: lt) ((.ref v) :: st) M k n := z_astore_g hd hn hp kk
theorem z_astore_8 {v : Nat} {a0 a1 a2 a3 a4 a5 a6 a7 a8 : Option Value} {lt : List (Option Value)} (hd : decode (z_cc d) pc = .ok (.astore 8, 2)) (hn : 8 < z_nL d) (hp : z_c1 a7 = true) (kk : z_J G Z d Q (pc + 2) (a0 :: a1 :: a2 :: a3 :: a4 :: a5 :: a6 :: a7 :: some (.ref v) :: lt) st M k n) : z_J G Z d Q (pc) (a0 :: a1 :: a2 :: a3 :: a4 :: a5 :: a6 :: a7 :: a8 :: lt) ((.ref v) :: st) M k n := z_astore_g hd hn hp kk
theorem z_astore_9 {v : Nat} {a0 a1 a2 a3 a4 a5 a6 a7 a8 a9 : Option Value} {lt : List (Option Value)} (hd : decode (z_cc d) pc = .ok (.astore 9, 2)) (hn : 9 < z_nL d) (hp : z_c1 a8 = true) (kk : z_J G Z d Q (pc + 2) (a0 :: a1 :: a2 :: a3 :: a4 :: a5 :: a6 :: a7 :: a8 :: some (.ref v) :: lt) st M k n) : z_J G Z d Q (pc) (a0 :: a1 :: a2 :: a3 :: a4 :: a5 :: a6 :: a7 :: a8 :: a9 :: lt) ((.ref v) :: st) M k n := z_astore_g hd hn hp kk
theorem z_astore_10 {v : Nat} {a0 a1 a2 a3 a4 a5 a6 a7 a8 a9 a10 : Option Value} {lt : List (Option Value)} (hd : decode (z_cc d) pc = .ok (.astore 10, 2)) (hn : 10 < z_nL d) (hp : z_c1 a9 = true) (kk : z_J G Z d Q (pc + 2) (a0 :: a1 :: a2 :: a3 :: a4 :: a5 :: a6 :: a7 :: a8 :: a9 :: some (.ref v) :: lt) st M k n) : z_J G Z d Q (pc) (a0 :: a1 :: a2 :: a3 :: a4 :: a5 :: a6 :: a7 :: a8 :: a9 :: a10 :: lt) ((.ref v) :: st) M k n := z_astore_g hd hn hp kk
theorem z_astore_11 {v : Nat} {a0 a1 a2 a3 a4 a5 a6 a7 a8 a9 a10 a11 : Option Value} {lt : List (Option Value)} (hd : decode (z_cc d) pc = .ok (.astore 11, 2)) (hn : 11 < z_nL d) (hp : z_c1 a10 = true) (kk : z_J G Z d Q (pc + 2) (a0 :: a1 :: a2 :: a3 :: a4 :: a5 :: a6 :: a7 :: a8 :: a9 :: a10 :: some (.ref v) :: lt) st M k n) : z_J G Z d Q (pc) (a0 :: a1 :: a2 :: a3 :: a4 :: a5 :: a6 :: a7 :: a8 :: a9 :: a10 :: a11 :: lt) ((.ref v) :: st) M k n := z_astore_g hd hn hp kk
theorem z_lstoren_g {j : Fin 4} {v : Int} (hd : decode (z_cc d) pc = .ok (.lstore_n j, 1)) (hn : (j : Nat) + 1 < z_nL d) (hp : z_pre ls (j : Nat) = true) (kk : z_J G Z d Q (pc + 1) ((ls.set (j : Nat) (some (z_L v))).set ((j : Nat) + 1) none) st M k n) : z_J G Z d Q (pc) ls ((z_L v) :: st) M k n :=
  fun hO H locs la hW hS hL => lv_lstore_n hO.1 hO.2.1 hd rfl (z_LH_has hL) hn rfl (fun la' hl' => kk hO H locs la' hW hS (z_LH_set2 hp hl'))
theorem z_lstore_g {j : Nat} {v : Int} (hd : decode (z_cc d) pc = .ok (.lstore j, 2)) (hn : j + 1 < z_nL d) (hp : z_pre ls j = true) (kk : z_J G Z d Q (pc + 2) ((ls.set j (some (z_L v))).set (j + 1) none) st M k n) : z_J G Z d Q (pc) ls ((z_L v) :: st) M k n :=
  fun hO H locs la hW hS hL => lv_lstore hO.1 hO.2.1 hd (z_LH_has hL) hn rfl (fun la' hl' => kk hO H locs la' hW hS (z_LH_set2 hp hl'))
theorem z_lstoren_0 {v : Int} {a0 a1 : Option Value} {lt : List (Option Value)} (hd : decode (z_cc d) pc = .ok (.lstore_n 0, 1)) (hn : 1 < z_nL d) (kk : z_J G Z d Q (pc + 1) (some (z_L v) :: none :: lt) st M k n) : z_J G Z d Q (pc) (a0 :: a1 :: lt) ((z_L v) :: st) M k n := z_lstoren_g hd hn rfl kk
theorem z_lstoren_1 {v : Int} {a0 a1 a2 : Option Value} {lt : List (Option Value)} (hd : decode (z_cc d) pc = .ok (.lstore_n 1, 1)) (hn : 2 < z_nL d) (hp : z_c1 a0 = true) (kk : z_J G Z d Q (pc + 1) (a0 :: some (z_L v) :: none :: lt) st M k n) : z_J G Z d Q (pc) (a0 :: a1 :: a2 :: lt) ((z_L v) :: st) M k n := z_lstoren_g hd hn hp kk
theorem z_lstoren_2 {v : Int} {a0 a1 a2 a3 : Option Value} {lt : List (Option Value)} (hd : decode (z_cc d) pc = .ok (.lstore_n 2, 1)) (hn : 3 < z_nL d) (hp : z_c1 a1 = true) (kk : z_J G Z d Q (pc + 1) (a0 :: a1 :: some (z_L v) :: none :: lt) st M k n) : z_J G Z d Q (pc) (a0 :: a1 :: a2 :: a3 :: lt) ((z_L v) :: st) M k n := z_lstoren_g hd hn hp kk
theorem z_lstoren_3 {v : Int} {a0 a1 a2 a3 a4 : Option Value} {lt : List (Option Value)} (hd : decode (z_cc d) pc = .ok (.lstore_n 3, 1)) (hn : 4 < z_nL d) (hp : z_c1 a2 = true) (kk : z_J G Z d Q (pc + 1) (a0 :: a1 :: a2 :: some (z_L v) :: none :: lt) st M k n) : z_J G Z d Q (pc) (a0 :: a1 :: a2 :: a3 :: a4 :: lt) ((z_L v) :: st) M k n := z_lstoren_g hd hn hp kk
theorem z_lstore_4 {v : Int} {a0 a1 a2 a3 a4 a5 : Option Value} {lt : List (Option Value)} (hd : decode (z_cc d) pc = .ok (.lstore 4, 2)) (hn : 5 < z_nL d) (hp : z_c1 a3 = true) (kk : z_J G Z d Q (pc + 2) (a0 :: a1 :: a2 :: a3 :: some (z_L v) :: none :: lt) st M k n) : z_J G Z d Q (pc) (a0 :: a1 :: a2 :: a3 :: a4 :: a5 :: lt) ((z_L v) :: st) M k n := z_lstore_g hd hn hp kk
theorem z_lstore_5 {v : Int} {a0 a1 a2 a3 a4 a5 a6 : Option Value} {lt : List (Option Value)} (hd : decode (z_cc d) pc = .ok (.lstore 5, 2)) (hn : 6 < z_nL d) (hp : z_c1 a4 = true) (kk : z_J G Z d Q (pc + 2) (a0 :: a1 :: a2 :: a3 :: a4 :: some (z_L v) :: none :: lt) st M k n) : z_J G Z d Q (pc) (a0 :: a1 :: a2 :: a3 :: a4 :: a5 :: a6 :: lt) ((z_L v) :: st) M k n := z_lstore_g hd hn hp kk
theorem z_lstore_6 {v : Int} {a0 a1 a2 a3 a4 a5 a6 a7 : Option Value} {lt : List (Option Value)} (hd : decode (z_cc d) pc = .ok (.lstore 6, 2)) (hn : 7 < z_nL d) (hp : z_c1 a5 = true) (kk : z_J G Z d Q (pc + 2) (a0 :: a1 :: a2 :: a3 :: a4 :: a5 :: some (z_L v) :: none :: lt) st M k n) : z_J G Z d Q (pc) (a0 :: a1 :: a2 :: a3 :: a4 :: a5 :: a6 :: a7 :: lt) ((z_L v) :: st) M k n := z_lstore_g hd hn hp kk
theorem z_lstore_7 {v : Int} {a0 a1 a2 a3 a4 a5 a6 a7 a8 : Option Value} {lt : List (Option Value)} (hd : decode (z_cc d) pc = .ok (.lstore 7, 2)) (hn : 8 < z_nL d) (hp : z_c1 a6 = true) (kk : z_J G Z d Q (pc + 2) (a0 :: a1 :: a2 :: a3 :: a4 :: a5 :: a6 :: some (z_L v) :: none :: lt) st M k n) : z_J G Z d Q (pc) (a0 :: a1 :: a2 :: a3 :: a4 :: a5 :: a6 :: a7 :: a8 :: lt) ((z_L v) :: st) M k n := z_lstore_g hd hn hp kk
theorem z_lstore_8 {v : Int} {a0 a1 a2 a3 a4 a5 a6 a7 a8 a9 : Option Value} {lt : List (Option Value)} (hd : decode (z_cc d) pc = .ok (.lstore 8, 2)) (hn : 9 < z_nL d) (hp : z_c1 a7 = true) (kk : z_J G Z d Q (pc + 2) (a0 :: a1 :: a2 :: a3 :: a4 :: a5 :: a6 :: a7 :: some (z_L v) :: none :: lt) st M k n) : z_J G Z d Q (pc) (a0 :: a1 :: a2 :: a3 :: a4 :: a5 :: a6 :: a7 :: a8 :: a9 :: lt) ((z_L v) :: st) M k n := z_lstore_g hd hn hp kk
theorem z_lstore_9 {v : Int} {a0 a1 a2 a3 a4 a5 a6 a7 a8 a9 a10 : Option Value} {lt : List (Option Value)} (hd : decode (z_cc d) pc = .ok (.lstore 9, 2)) (hn : 10 < z_nL d) (hp : z_c1 a8 = true) (kk : z_J G Z d Q (pc + 2) (a0 :: a1 :: a2 :: a3 :: a4 :: a5 :: a6 :: a7 :: a8 :: some (z_L v) :: none :: lt) st M k n) : z_J G Z d Q (pc) (a0 :: a1 :: a2 :: a3 :: a4 :: a5 :: a6 :: a7 :: a8 :: a9 :: a10 :: lt) ((z_L v) :: st) M k n := z_lstore_g hd hn hp kk
theorem z_lstore_10 {v : Int} {a0 a1 a2 a3 a4 a5 a6 a7 a8 a9 a10 a11 : Option Value} {lt : List (Option Value)} (hd : decode (z_cc d) pc = .ok (.lstore 10, 2)) (hn : 11 < z_nL d) (hp : z_c1 a9 = true) (kk : z_J G Z d Q (pc + 2) (a0 :: a1 :: a2 :: a3 :: a4 :: a5 :: a6 :: a7 :: a8 :: a9 :: some (z_L v) :: none :: lt) st M k n) : z_J G Z d Q (pc) (a0 :: a1 :: a2 :: a3 :: a4 :: a5 :: a6 :: a7 :: a8 :: a9 :: a10 :: a11 :: lt) ((z_L v) :: st) M k n := z_lstore_g hd hn hp kk
theorem z_lstore_11 {v : Int} {a0 a1 a2 a3 a4 a5 a6 a7 a8 a9 a10 a11 a12 : Option Value} {lt : List (Option Value)} (hd : decode (z_cc d) pc = .ok (.lstore 11, 2)) (hn : 12 < z_nL d) (hp : z_c1 a10 = true) (kk : z_J G Z d Q (pc + 2) (a0 :: a1 :: a2 :: a3 :: a4 :: a5 :: a6 :: a7 :: a8 :: a9 :: a10 :: some (z_L v) :: none :: lt) st M k n) : z_J G Z d Q (pc) (a0 :: a1 :: a2 :: a3 :: a4 :: a5 :: a6 :: a7 :: a8 :: a9 :: a10 :: a11 :: a12 :: lt) ((z_L v) :: st) M k n := z_lstore_g hd hn hp kk
theorem z_dstoren_g {j : Fin 4} {v : UInt64} (hd : decode (z_cc d) pc = .ok (.dstore_n j, 1)) (hn : (j : Nat) + 1 < z_nL d) (hp : z_pre ls (j : Nat) = true) (kk : z_J G Z d Q (pc + 1) ((ls.set (j : Nat) (some (.double v))).set ((j : Nat) + 1) none) st M k n) : z_J G Z d Q (pc) ls ((.double v) :: st) M k n :=
  fun hO H locs la hW hS hL => lv_dstore_n hO.1 hO.2.1 hd rfl (z_LH_has hL) hn rfl (fun la' hl' => kk hO H locs la' hW hS (z_LH_set2 hp hl'))
theorem z_dstore_g {j : Nat} {v : UInt64} (hd : decode (z_cc d) pc = .ok (.dstore j, 2)) (hn : j + 1 < z_nL d) (hp : z_pre ls j = true) (kk : z_J G Z d Q (pc + 2) ((ls.set j (some (.double v))).set (j + 1) none) st M k n) : z_J G Z d Q (pc) ls ((.double v) :: st) M k n :=
  fun hO H locs la hW hS hL => lv_dstore hO.1 hO.2.1 hd (z_LH_has hL) hn rfl (fun la' hl' => kk hO H locs la' hW hS (z_LH_set2 hp hl'))
theorem z_dstoren_0 {v : UInt64} {a0 a1 : Option Value} {lt : List (Option Value)} (hd : decode (z_cc d) pc = .ok (.dstore_n 0, 1)) (hn : 1 < z_nL d) (kk : z_J G Z d Q (pc + 1) (some (.double v) :: none :: lt) st M k n) : z_J G Z d Q (pc) (a0 :: a1 :: lt) ((.double v) :: st) M k n := z_dstoren_g hd hn rfl kk
theorem z_dstoren_1 {v : UInt64} {a0 a1 a2 : Option Value} {lt : List (Option Value)} (hd : decode (z_cc d) pc = .ok (.dstore_n 1, 1)) (hn : 2 < z_nL d) (hp : z_c1 a0 = true) (kk : z_J G Z d Q (pc + 1) (a0 :: some (.double v) :: none :: lt) st M k n) : z_J G Z d Q (pc) (a0 :: a1 :: a2 :: lt) ((.double v) :: st) M k n := z_dstoren_g hd hn hp kk
theorem z_dstoren_2 {v : UInt64} {a0 a1 a2 a3 : Option Value} {lt : List (Option Value)} (hd : decode (z_cc d) pc = .ok (.dstore_n 2, 1)) (hn : 3 < z_nL d) (hp : z_c1 a1 = true) (kk : z_J G Z d Q (pc + 1) (a0 :: a1 :: some (.double v) :: none :: lt) st M k n) : z_J G Z d Q (pc) (a0 :: a1 :: a2 :: a3 :: lt) ((.double v) :: st) M k n := z_dstoren_g hd hn hp kk
theorem z_dstoren_3 {v : UInt64} {a0 a1 a2 a3 a4 : Option Value} {lt : List (Option Value)} (hd : decode (z_cc d) pc = .ok (.dstore_n 3, 1)) (hn : 4 < z_nL d) (hp : z_c1 a2 = true) (kk : z_J G Z d Q (pc + 1) (a0 :: a1 :: a2 :: some (.double v) :: none :: lt) st M k n) : z_J G Z d Q (pc) (a0 :: a1 :: a2 :: a3 :: a4 :: lt) ((.double v) :: st) M k n := z_dstoren_g hd hn hp kk
theorem z_dstore_4 {v : UInt64} {a0 a1 a2 a3 a4 a5 : Option Value} {lt : List (Option Value)} (hd : decode (z_cc d) pc = .ok (.dstore 4, 2)) (hn : 5 < z_nL d) (hp : z_c1 a3 = true) (kk : z_J G Z d Q (pc + 2) (a0 :: a1 :: a2 :: a3 :: some (.double v) :: none :: lt) st M k n) : z_J G Z d Q (pc) (a0 :: a1 :: a2 :: a3 :: a4 :: a5 :: lt) ((.double v) :: st) M k n := z_dstore_g hd hn hp kk
theorem z_dstore_5 {v : UInt64} {a0 a1 a2 a3 a4 a5 a6 : Option Value} {lt : List (Option Value)} (hd : decode (z_cc d) pc = .ok (.dstore 5, 2)) (hn : 6 < z_nL d) (hp : z_c1 a4 = true) (kk : z_J G Z d Q (pc + 2) (a0 :: a1 :: a2 :: a3 :: a4 :: some (.double v) :: none :: lt) st M k n) : z_J G Z d Q (pc) (a0 :: a1 :: a2 :: a3 :: a4 :: a5 :: a6 :: lt) ((.double v) :: st) M k n := z_dstore_g hd hn hp kk
theorem z_dstore_6 {v : UInt64} {a0 a1 a2 a3 a4 a5 a6 a7 : Option Value} {lt : List (Option Value)} (hd : decode (z_cc d) pc = .ok (.dstore 6, 2)) (hn : 7 < z_nL d) (hp : z_c1 a5 = true) (kk : z_J G Z d Q (pc + 2) (a0 :: a1 :: a2 :: a3 :: a4 :: a5 :: some (.double v) :: none :: lt) st M k n) : z_J G Z d Q (pc) (a0 :: a1 :: a2 :: a3 :: a4 :: a5 :: a6 :: a7 :: lt) ((.double v) :: st) M k n := z_dstore_g hd hn hp kk
theorem z_dstore_7 {v : UInt64} {a0 a1 a2 a3 a4 a5 a6 a7 a8 : Option Value} {lt : List (Option Value)} (hd : decode (z_cc d) pc = .ok (.dstore 7, 2)) (hn : 8 < z_nL d) (hp : z_c1 a6 = true) (kk : z_J G Z d Q (pc + 2) (a0 :: a1 :: a2 :: a3 :: a4 :: a5 :: a6 :: some (.double v) :: none :: lt) st M k n) : z_J G Z d Q (pc) (a0 :: a1 :: a2 :: a3 :: a4 :: a5 :: a6 :: a7 :: a8 :: lt) ((.double v) :: st) M k n := z_dstore_g hd hn hp kk
theorem z_dstore_8 {v : UInt64} {a0 a1 a2 a3 a4 a5 a6 a7 a8 a9 : Option Value} {lt : List (Option Value)} (hd : decode (z_cc d) pc = .ok (.dstore 8, 2)) (hn : 9 < z_nL d) (hp : z_c1 a7 = true) (kk : z_J G Z d Q (pc + 2) (a0 :: a1 :: a2 :: a3 :: a4 :: a5 :: a6 :: a7 :: some (.double v) :: none :: lt) st M k n) : z_J G Z d Q (pc) (a0 :: a1 :: a2 :: a3 :: a4 :: a5 :: a6 :: a7 :: a8 :: a9 :: lt) ((.double v) :: st) M k n := z_dstore_g hd hn hp kk
theorem z_dstore_9 {v : UInt64} {a0 a1 a2 a3 a4 a5 a6 a7 a8 a9 a10 : Option Value} {lt : List (Option Value)} (hd : decode (z_cc d) pc = .ok (.dstore 9, 2)) (hn : 10 < z_nL d) (hp : z_c1 a8 = true) (kk : z_J G Z d Q (pc + 2) (a0 :: a1 :: a2 :: a3 :: a4 :: a5 :: a6 :: a7 :: a8 :: some (.double v) :: none :: lt) st M k n) : z_J G Z d Q (pc) (a0 :: a1 :: a2 :: a3 :: a4 :: a5 :: a6 :: a7 :: a8 :: a9 :: a10 :: lt) ((.double v) :: st) M k n := z_dstore_g hd hn hp kk
theorem z_dstore_10 {v : UInt64} {a0 a1 a2 a3 a4 a5 a6 a7 a8 a9 a10 a11 : Option Value} {lt : List (Option Value)} (hd : decode (z_cc d) pc = .ok (.dstore 10, 2)) (hn : 11 < z_nL d) (hp : z_c1 a9 = true) (kk : z_J G Z d Q (pc + 2) (a0 :: a1 :: a2 :: a3 :: a4 :: a5 :: a6 :: a7 :: a8 :: a9 :: some (.double v) :: none :: lt) st M k n) : z_J G Z d Q (pc) (a0 :: a1 :: a2 :: a3 :: a4 :: a5 :: a6 :: a7 :: a8 :: a9 :: a10 :: a11 :: lt) ((.double v) :: st) M k n := z_dstore_g hd hn hp kk
theorem z_dstore_11 {v : UInt64} {a0 a1 a2 a3 a4 a5 a6 a7 a8 a9 a10 a11 a12 : Option Value} {lt : List (Option Value)} (hd : decode (z_cc d) pc = .ok (.dstore 11, 2)) (hn : 12 < z_nL d) (hp : z_c1 a10 = true) (kk : z_J G Z d Q (pc + 2) (a0 :: a1 :: a2 :: a3 :: a4 :: a5 :: a6 :: a7 :: a8 :: a9 :: a10 :: some (.double v) :: none :: lt) st M k n) : z_J G Z d Q (pc) (a0 :: a1 :: a2 :: a3 :: a4 :: a5 :: a6 :: a7 :: a8 :: a9 :: a10 :: a11 :: a12 :: lt) ((.double v) :: st) M k n := z_dstore_g hd hn hp kk
theorem z_iinc_g {j : Nat} {i v : Int} (hd : decode (z_cc d) pc = .ok (.iinc j i, 3)) (hv : ls[j]? = some (some (z_I v))) (hn : j < z_nL d) (hp : z_pre ls j = true) (kk : z_J G Z d Q (pc + 3) (ls.set j (some (z_I (v + i)))) st M k n) : z_J G Z d Q (pc) ls st M k n :=
  fun hO H locs la hW hS hL => by
    obtain ⟨q, hq⟩ := List.getElem?_of_mem (z_lv_mem.mpr hv)
    exact lv_iinc hO.1 hO.2.1 hd (z_LH_has hL) hq (by rw [← Int32.ofInt_add]) hn rfl (fun la' hl' => kk hO H locs la' hW hS (z_LH_set1 hp hl'))
theorem z_iinc_0 {i v : Int} {lt : List (Option Value)} (hd : decode (z_cc d) pc = .ok (.iinc 0 i, 3)) (hn : 0 < z_nL d) (kk : z_J G Z d Q (pc + 3) (some (z_I (v + i)) :: lt) st M k n) : z_J G Z d Q (pc) (some (z_I v) :: lt) st M k n := z_iinc_g hd rfl hn rfl kk
theorem z_iinc_1 {i v : Int} {a0 : Option Value} {lt : List (Option Value)} (hd : decode (z_cc d) pc = .ok (.iinc 1 i, 3)) (hn : 1 < z_nL d) (hp : z_c1 a0 = true) (kk : z_J G Z d Q (pc + 3) (a0 :: some (z_I (v + i)) :: lt) st M k n) : z_J G Z d Q (pc) (a0 :: some (z_I v) :: lt) st M k n := z_iinc_g hd rfl hn hp kk
theorem z_iinc_2 {i v : Int} {a0 a1 : Option Value} {lt : List (Option Value)} (hd : decode (z_cc d) pc = .ok (.iinc 2 i, 3)) (hn : 2 < z_nL d) (hp : z_c1 a1 = true) (kk : z_J G Z d Q (pc + 3) (a0 :: a1 :: some (z_I (v + i)) :: lt) st M k n) : z_J G Z d Q (pc) (a0 :: a1 :: some (z_I v) :: lt) st M k n := z_iinc_g hd rfl hn hp kk
theorem z_iinc_3 {i v : Int} {a0 a1 a2 : Option Value} {lt : List (Option Value)} (hd : decode (z_cc d) pc = .ok (.iinc 3 i, 3)) (hn : 3 < z_nL d) (hp : z_c1 a2 = true) (kk : z_J G Z d Q (pc + 3) (a0 :: a1 :: a2 :: some (z_I (v + i)) :: lt) st M k n) : z_J G Z d Q (pc) (a0 :: a1 :: a2 :: some (z_I v) :: lt) st M k n := z_iinc_g hd rfl hn hp kk
theorem z_iinc_4 {i v : Int} {a0 a1 a2 a3 : Option Value} {lt : List (Option Value)} (hd : decode (z_cc d) pc = .ok (.iinc 4 i, 3)) (hn : 4 < z_nL d) (hp : z_c1 a3 = true) (kk : z_J G Z d Q (pc + 3) (a0 :: a1 :: a2 :: a3 :: some (z_I (v + i)) :: lt) st M k n) : z_J G Z d Q (pc) (a0 :: a1 :: a2 :: a3 :: some (z_I v) :: lt) st M k n := z_iinc_g hd rfl hn hp kk
theorem z_iinc_5 {i v : Int} {a0 a1 a2 a3 a4 : Option Value} {lt : List (Option Value)} (hd : decode (z_cc d) pc = .ok (.iinc 5 i, 3)) (hn : 5 < z_nL d) (hp : z_c1 a4 = true) (kk : z_J G Z d Q (pc + 3) (a0 :: a1 :: a2 :: a3 :: a4 :: some (z_I (v + i)) :: lt) st M k n) : z_J G Z d Q (pc) (a0 :: a1 :: a2 :: a3 :: a4 :: some (z_I v) :: lt) st M k n := z_iinc_g hd rfl hn hp kk
theorem z_iinc_6 {i v : Int} {a0 a1 a2 a3 a4 a5 : Option Value} {lt : List (Option Value)} (hd : decode (z_cc d) pc = .ok (.iinc 6 i, 3)) (hn : 6 < z_nL d) (hp : z_c1 a5 = true) (kk : z_J G Z d Q (pc + 3) (a0 :: a1 :: a2 :: a3 :: a4 :: a5 :: some (z_I (v + i)) :: lt) st M k n) : z_J G Z d Q (pc) (a0 :: a1 :: a2 :: a3 :: a4 :: a5 :: some (z_I v) :: lt) st M k n := z_iinc_g hd rfl hn hp kk
theorem z_iinc_7 {i v : Int} {a0 a1 a2 a3 a4 a5 a6 : Option Value} {lt : List (Option Value)} (hd : decode (z_cc d) pc = .ok (.iinc 7 i, 3)) (hn : 7 < z_nL d) (hp : z_c1 a6 = true) (kk : z_J G Z d Q (pc + 3) (a0 :: a1 :: a2 :: a3 :: a4 :: a5 :: a6 :: some (z_I (v + i)) :: lt) st M k n) : z_J G Z d Q (pc) (a0 :: a1 :: a2 :: a3 :: a4 :: a5 :: a6 :: some (z_I v) :: lt) st M k n := z_iinc_g hd rfl hn hp kk
theorem z_iinc_8 {i v : Int} {a0 a1 a2 a3 a4 a5 a6 a7 : Option Value} {lt : List (Option Value)} (hd : decode (z_cc d) pc = .ok (.iinc 8 i, 3)) (hn : 8 < z_nL d) (hp : z_c1 a7 = true) (kk : z_J G Z d Q (pc + 3) (a0 :: a1 :: a2 :: a3 :: a4 :: a5 :: a6 :: a7 :: some (z_I (v + i)) :: lt) st M k n) : z_J G Z d Q (pc) (a0 :: a1 :: a2 :: a3 :: a4 :: a5 :: a6 :: a7 :: some (z_I v) :: lt) st M k n := z_iinc_g hd rfl hn hp kk
theorem z_iinc_9 {i v : Int} {a0 a1 a2 a3 a4 a5 a6 a7 a8 : Option Value} {lt : List (Option Value)} (hd : decode (z_cc d) pc = .ok (.iinc 9 i, 3)) (hn : 9 < z_nL d) (hp : z_c1 a8 = true) (kk : z_J G Z d Q (pc + 3) (a0 :: a1 :: a2 :: a3 :: a4 :: a5 :: a6 :: a7 :: a8 :: some (z_I (v + i)) :: lt) st M k n) : z_J G Z d Q (pc) (a0 :: a1 :: a2 :: a3 :: a4 :: a5 :: a6 :: a7 :: a8 :: some (z_I v) :: lt) st M k n := z_iinc_g hd rfl hn hp kk
theorem z_iinc_10 {i v : Int} {a0 a1 a2 a3 a4 a5 a6 a7 a8 a9 : Option Value} {lt : List (Option Value)} (hd : decode (z_cc d) pc = .ok (.iinc 10 i, 3)) (hn : 10 < z_nL d) (hp : z_c1 a9 = true) (kk : z_J G Z d Q (pc + 3) (a0 :: a1 :: a2 :: a3 :: a4 :: a5 :: a6 :: a7 :: a8 :: a9 :: some (z_I (v + i)) :: lt) st M k n) : z_J G Z d Q (pc) (a0 :: a1 :: a2 :: a3 :: a4 :: a5 :: a6 :: a7 :: a8 :: a9 :: some (z_I v) :: lt) st M k n := z_iinc_g hd rfl hn hp kk
theorem z_iinc_11 {i v : Int} {a0 a1 a2 a3 a4 a5 a6 a7 a8 a9 a10 : Option Value} {lt : List (Option Value)} (hd : decode (z_cc d) pc = .ok (.iinc 11 i, 3)) (hn : 11 < z_nL d) (hp : z_c1 a10 = true) (kk : z_J G Z d Q (pc + 3) (a0 :: a1 :: a2 :: a3 :: a4 :: a5 :: a6 :: a7 :: a8 :: a9 :: a10 :: some (z_I (v + i)) :: lt) st M k n) : z_J G Z d Q (pc) (a0 :: a1 :: a2 :: a3 :: a4 :: a5 :: a6 :: a7 :: a8 :: a9 :: a10 :: some (z_I v) :: lt) st M k n := z_iinc_g hd rfl hn hp kk
theorem z_iadd {a b : Int} (hd : decode (z_cc d) pc = .ok (.iadd, 1)) (kk : z_J G Z d Q (pc + 1) ls (z_I (a + b) :: st) M k n) : z_J G Z d Q (pc) ls (z_I b :: z_I a :: st) M k n :=
  fun hO H locs la hW hS hL => lv_iadd hO.1 hO.2.1 hd (by have h := kk hO H locs la hW hS hL; rwa [z_I, Int32.ofInt_add] at h)
theorem z_isub {a b : Int} (hd : decode (z_cc d) pc = .ok (.isub, 1)) (kk : z_J G Z d Q (pc + 1) ls (z_I (a - b) :: st) M k n) : z_J G Z d Q (pc) ls (z_I b :: z_I a :: st) M k n :=
  fun hO H locs la hW hS hL => lv_isub hO.1 hO.2.1 hd (by have h := kk hO H locs la hW hS hL; rwa [z_I, Int32.ofInt_sub] at h)
theorem z_imul {a b : Int} (hd : decode (z_cc d) pc = .ok (.imul, 1)) (kk : z_J G Z d Q (pc + 1) ls (z_I (a * b) :: st) M k n) : z_J G Z d Q (pc) ls (z_I b :: z_I a :: st) M k n :=
  fun hO H locs la hW hS hL => lv_imul hO.1 hO.2.1 hd (by have h := kk hO H locs la hW hS hL; rwa [z_I, Int32.ofInt_mul] at h)
theorem z_ladd {a b : Int} (hd : decode (z_cc d) pc = .ok (.ladd, 1)) (kk : z_J G Z d Q (pc + 1) ls (z_L (a + b) :: st) M k n) : z_J G Z d Q (pc) ls (z_L b :: z_L a :: st) M k n :=
  fun hO H locs la hW hS hL => lv_ladd hO.1 hO.2.1 hd (by have h := kk hO H locs la hW hS hL; rwa [z_L, Int64.ofInt_add] at h)
theorem z_lsub {a b : Int} (hd : decode (z_cc d) pc = .ok (.lsub, 1)) (kk : z_J G Z d Q (pc + 1) ls (z_L (a - b) :: st) M k n) : z_J G Z d Q (pc) ls (z_L b :: z_L a :: st) M k n :=
  fun hO H locs la hW hS hL => lv_lsub hO.1 hO.2.1 hd (by have h := kk hO H locs la hW hS hL; rwa [z_L, Int64.ofInt_sub] at h)
theorem z_lmul {a b : Int} (hd : decode (z_cc d) pc = .ok (.lmul, 1)) (kk : z_J G Z d Q (pc + 1) ls (z_L (a * b) :: st) M k n) : z_J G Z d Q (pc) ls (z_L b :: z_L a :: st) M k n :=
  fun hO H locs la hW hS hL => lv_lmul hO.1 hO.2.1 hd (by have h := kk hO H locs la hW hS hL; rwa [z_L, Int64.ofInt_mul] at h)
theorem z_ineg {a : Int} (hd : decode (z_cc d) pc = .ok (.ineg, 1)) (kk : z_J G Z d Q (pc + 1) ls (z_I (-a) :: st) M k n) : z_J G Z d Q (pc) ls (z_I a :: st) M k n :=
  fun hO H locs la hW hS hL => lv_ineg hO.1 hO.2.1 hd (by have h := kk hO H locs la hW hS hL; rwa [z_I, Int32.ofInt_neg] at h)
theorem z_ofInt_rem {a b : Int} (ha : 0 ≤ a) (ha' : a ≤ 2147483647) (hb : 0 < b) (hb' : b ≤ 2147483647) (e : Int32.ofInt a / Int32.ofInt b = Int32.ofInt (a / b)) : Int32.ofInt a - Int32.ofInt a / Int32.ofInt b * Int32.ofInt b = Int32.ofInt (a % b) := by
  rw [e, ← Int32.ofInt_mul, ← Int32.ofInt_sub]
  congr 1
  rw [Int.emod_def, Int.mul_comm b]
theorem z_ofInt_div {a b : Int} (ha : 0 ≤ a) (ha' : a ≤ 2147483647) (hb : 0 < b) (hb' : b ≤ 2147483647) : Int32.ofInt a / Int32.ofInt b = Int32.ofInt (a / b) := by
  rw [← Int.tdiv_eq_ediv_of_nonneg ha]
  exact (Int32.ofInt_tdiv (show (-2147483648 : Int) ≤ a by omega) (show a ≤ (2147483647 : Int) from ha') (show (-2147483648 : Int) ≤ b by omega) (show b ≤ (2147483647 : Int) from hb')).symm
theorem z_ne0 {b : Int} (hb : 0 < b) (hb' : b ≤ 2147483647) : ¬ Int32.ofInt b = 0 := fun e => by
  have h := (z_eq32 (a := b) (b := 0) ⟨by omega, hb'⟩ ⟨by omega, by omega⟩).mp e
  omega
theorem z_idiv {a b : Int} (ha : 0 ≤ a) (ha' : a ≤ 2147483647) (hb : 0 < b) (hb' : b ≤ 2147483647) (hd : decode (z_cc d) pc = .ok (.idiv, 1)) (kk : z_J G Z d Q (pc + 1) ls (z_I (a / b) :: st) M k n) : z_J G Z d Q (pc) ls (z_I b :: z_I a :: st) M k n :=
  fun hO H locs la hW hS hL => lv_idiv hO.1 hO.2.1 hd (z_ne0 hb hb') (by have h := kk hO H locs la hW hS hL; rwa [z_I, ← z_ofInt_div ha ha' hb hb'] at h)
theorem z_irem {a b : Int} (ha : 0 ≤ a) (ha' : a ≤ 2147483647) (hb : 0 < b) (hb' : b ≤ 2147483647) (hd : decode (z_cc d) pc = .ok (.irem, 1)) (kk : z_J G Z d Q (pc + 1) ls (z_I (a % b) :: st) M k n) : z_J G Z d Q (pc) ls (z_I b :: z_I a :: st) M k n :=
  fun hO H locs la hW hS hL => lv_irem hO.1 hO.2.1 hd (z_ne0 hb hb') (by have h := kk hO H locs la hW hS hL; rwa [z_I, ← z_ofInt_rem ha ha' hb hb' (z_ofInt_div ha ha' hb hb')] at h)
theorem z_dup {va : Value} (hd : decode (z_cc d) pc = .ok (.dup, 1)) (hc : va.category = 1)  (kk : z_J G Z d Q (pc + 1) ls (va :: va :: st) M k n) : z_J G Z d Q (pc) ls (va :: st) M k n :=
  fun hO H locs la hW hS hL => lv_dup hO.1 hO.2.1 hd hc (kk hO H locs la hW hS hL)
theorem z_pop {va : Value} (hd : decode (z_cc d) pc = .ok (.pop, 1)) (hc : va.category = 1)  (kk : z_J G Z d Q (pc + 1) ls st M k n) : z_J G Z d Q (pc) ls (va :: st) M k n :=
  fun hO H locs la hW hS hL => lv_pop hO.1 hO.2.1 hd hc (kk hO H locs la hW hS hL)
theorem z_dup2 {va vb : Value} (hd : decode (z_cc d) pc = .ok (.dup2, 1)) (hc : va.category = 1) (hc2 : vb.category = 1)  (kk : z_J G Z d Q (pc + 1) ls (va :: vb :: va :: vb :: st) M k n) : z_J G Z d Q (pc) ls (va :: vb :: st) M k n :=
  fun hO H locs la hW hS hL => lv_dup2_11 hO.1 hO.2.1 hd hc hc2 (kk hO H locs la hW hS hL)
theorem z_dup2l {va : Value} (hd : decode (z_cc d) pc = .ok (.dup2, 1)) (hc : va.category = 2)  (kk : z_J G Z d Q (pc + 1) ls (va :: va :: st) M k n) : z_J G Z d Q (pc) ls (va :: st) M k n :=
  fun hO H locs la hW hS hL => lv_dup2_2 hO.1 hO.2.1 hd hc (kk hO H locs la hW hS hL)
theorem z_i2l {a : Int} (hr : z_rg a) (hd : decode (z_cc d) pc = .ok (.i2l, 1)) (kk : z_J G Z d Q (pc + 1) ls (z_L a :: st) M k n) : z_J G Z d Q (pc) ls (z_I a :: st) M k n :=
  fun hO H locs la hW hS hL => lv_i2l hO.1 hO.2.1 hd (Int32.toInt64_ofInt hr.1 hr.2) (kk hO H locs la hW hS hL)
theorem z_i2d {a : Int} (hd : decode (z_cc d) pc = .ok (.i2d, 1)) (kk : z_J G Z d Q (pc + 1) ls (.double (FP.i2d (Int32.ofInt a)) :: st) M k n) : z_J G Z d Q (pc) ls (z_I a :: st) M k n :=
  fun hO H locs la hW hS hL => lv_i2d hO.1 hO.2.1 hd (kk hO H locs la hW hS hL)
theorem z_dmul {x y : UInt64} (hne : vf_n64 (FP.dmul x y)) (hd : decode (z_cc d) pc = .ok (.dmul, 1)) (kk : z_J G Z d Q (pc + 1) ls (.double (FP.dmul x y) :: st) M k n) : z_J G Z d Q (pc) ls (.double y :: .double x :: st) M k n :=
  fun hO H locs la hW hS hL => lv_dmul hO.1 hO.2.1 hd hne (kk hO H locs la hW hS hL)
theorem z_ddiv {x y : UInt64} (hne : vf_n64 (FP.ddiv x y)) (hd : decode (z_cc d) pc = .ok (.ddiv, 1)) (kk : z_J G Z d Q (pc + 1) ls (.double (FP.ddiv x y) :: st) M k n) : z_J G Z d Q (pc) ls (.double y :: .double x :: st) M k n :=
  fun hO H locs la hW hS hL => lv_ddiv hO.1 hO.2.1 hd hne (kk hO H locs la hW hS hL)
theorem z_dsub {x y : UInt64} (hne : vf_n64 (FP.dsub x y)) (hd : decode (z_cc d) pc = .ok (.dsub, 1)) (kk : z_J G Z d Q (pc + 1) ls (.double (FP.dsub x y) :: st) M k n) : z_J G Z d Q (pc) ls (.double y :: .double x :: st) M k n :=
  fun hO H locs la hW hS hL => lv_dsub hO.1 hO.2.1 hd hne (kk hO H locs la hW hS hL)
theorem z_d2l {x : UInt64} (hd : decode (z_cc d) pc = .ok (.d2l, 1)) (kk : z_J G Z d Q (pc + 1) ls (.long (FP.d2l x) :: st) M k n) : z_J G Z d Q (pc) ls (.double x :: st) M k n :=
  fun hO H locs la hW hS hL => lv_d2l hO.1 hO.2.1 hd (kk hO H locs la hW hS hL)
theorem z_dcmp {x y : UInt64} {op : CmpOp} {r : Int} (hr : Op.cmpValue (FP.dcmp x y) op = Int32.ofInt r) (hd : decode (z_cc d) pc = .ok (.dcmp op, 1)) (kk : z_J G Z d Q (pc + 1) ls (z_I r :: st) M k n) : z_J G Z d Q (pc) ls (.double y :: .double x :: st) M k n :=
  fun hO H locs la hW hS hL => lv_dcmp hO.1 hO.2.1 hd (by rw [hr]; exact kk hO H locs la hW hS hL)
theorem z_lcmp {x y : Int} {r : Int} (hr : lg_cmp (Int64.ofInt x) (Int64.ofInt y) = Int32.ofInt r) (hd : decode (z_cc d) pc = .ok (.lcmp, 1)) (kk : z_J G Z d Q (pc + 1) ls (z_I r :: st) M k n) : z_J G Z d Q (pc) ls (z_L y :: z_L x :: st) M k n :=
  fun hO H locs la hW hS hL => W.lcmp hO.1 hO.2.1 hd (by rw [hr]; exact kk hO H locs la hW hS hL)
theorem z_ishl {x y r : Int} (hr : (Int32.ofInt x) <<< ((Int32.ofInt y) &&& 31) = Int32.ofInt r) (hd : decode (z_cc d) pc = .ok (.ishl, 1)) (kk : z_J G Z d Q (pc + 1) ls (z_I r :: st) M k n) : z_J G Z d Q (pc) ls (z_I y :: z_I x :: st) M k n :=
  fun hO H locs la hW hS hL => lv_ishl hO.1 hO.2.1 hd (by rw [hr]; exact kk hO H locs la hW hS hL)
theorem z_ishr {x y r : Int} (hr : (Int32.ofInt x) >>> ((Int32.ofInt y) &&& 31) = Int32.ofInt r) (hd : decode (z_cc d) pc = .ok (.ishr, 1)) (kk : z_J G Z d Q (pc + 1) ls (z_I r :: st) M k n) : z_J G Z d Q (pc) ls (z_I y :: z_I x :: st) M k n :=
  fun hO H locs la hW hS hL => lv_ishr hO.1 hO.2.1 hd (by rw [hr]; exact kk hO H locs la hW hS hL)
theorem z_iand {x y r : Int} (hr : (Int32.ofInt x) &&& (Int32.ofInt y) = Int32.ofInt r) (hd : decode (z_cc d) pc = .ok (.iand, 1)) (kk : z_J G Z d Q (pc + 1) ls (z_I r :: st) M k n) : z_J G Z d Q (pc) ls (z_I y :: z_I x :: st) M k n :=
  fun hO H locs la hW hS hL => lv_iand hO.1 hO.2.1 hd (by rw [hr]; exact kk hO H locs la hW hS hL)
theorem z_ior {x y r : Int} (hr : (Int32.ofInt x) ||| (Int32.ofInt y) = Int32.ofInt r) (hd : decode (z_cc d) pc = .ok (.ior, 1)) (kk : z_J G Z d Q (pc + 1) ls (z_I r :: st) M k n) : z_J G Z d Q (pc) ls (z_I y :: z_I x :: st) M k n :=
  fun hO H locs la hW hS hL => lv_ior hO.1 hO.2.1 hd (by rw [hr]; exact kk hO H locs la hW hS hL)
theorem z_lshl {x y r : Int} (hr : (Int64.ofInt x) <<< ((Int32.ofInt y).toInt64 &&& 63) = Int64.ofInt r) (hd : decode (z_cc d) pc = .ok (.lshl, 1)) (kk : z_J G Z d Q (pc + 1) ls (z_L r :: st) M k n) : z_J G Z d Q (pc) ls (z_I y :: z_L x :: st) M k n :=
  fun hO H locs la hW hS hL => lv_lshl hO.1 hO.2.1 hd hr (kk hO H locs la hW hS hL)
theorem z_icmp_eq {a b : Int} {off : Int} {tgt : Nat} (ha : z_rg a) (hb : z_rg b) (hd : decode (z_cc d) pc = .ok (.if_icmp .eq off, 3)) (ht : (pc : Int) + off = (tgt : Int)) (kt : a = b → z_J G Z d Q (tgt) ls st M k n) (kf : ¬ a = b → z_J G Z d Q (pc + 3) ls st M k n) : z_J G Z d Q (pc) ls (z_I b :: z_I a :: st) M k n :=
  fun hO H locs la hW hS hL => lv_icmp_eq hO.1 hO.2.1 hd ht (fun h => kt ((z_eq32 ha hb).mp h) hO H locs la hW hS hL) (fun h => kf (fun h2 => h ((z_eq32 ha hb).mpr h2)) hO H locs la hW hS hL)
theorem z_rg0 : z_rg 0 := ⟨by decide, by decide⟩
theorem z_if_eq {a : Int} {off : Int} {tgt : Nat} (ha : z_rg a) (hd : decode (z_cc d) pc = .ok (.ifCond .eq off, 3)) (ht : (pc : Int) + off = (tgt : Int)) (kt : a = 0 → z_J G Z d Q (tgt) ls st M k n) (kf : ¬ a = 0 → z_J G Z d Q (pc + 3) ls st M k n) : z_J G Z d Q (pc) ls (z_I a :: st) M k n :=
  fun hO H locs la hW hS hL => lv_if_eq hO.1 hO.2.1 hd ht (fun h => kt ((z_eq32 ha z_rg0).mp h) hO H locs la hW hS hL) (fun h => kf (fun h2 => h ((z_eq32 ha z_rg0).mpr h2)) hO H locs la hW hS hL)
theorem z_icmp_ne {a b : Int} {off : Int} {tgt : Nat} (ha : z_rg a) (hb : z_rg b) (hd : decode (z_cc d) pc = .ok (.if_icmp .ne off, 3)) (ht : (pc : Int) + off = (tgt : Int)) (kt : ¬ a = b → z_J G Z d Q (tgt) ls st M k n) (kf : a = b → z_J G Z d Q (pc + 3) ls st M k n) : z_J G Z d Q (pc) ls (z_I b :: z_I a :: st) M k n :=
  fun hO H locs la hW hS hL => lv_icmp_ne hO.1 hO.2.1 hd ht (fun h => kt (((not_congr (z_eq32 ha hb))).mp h) hO H locs la hW hS hL) (fun h => kf ((z_eq32 ha hb).mp h) hO H locs la hW hS hL)
theorem z_if_ne {a : Int} {off : Int} {tgt : Nat} (ha : z_rg a) (hd : decode (z_cc d) pc = .ok (.ifCond .ne off, 3)) (ht : (pc : Int) + off = (tgt : Int)) (kt : ¬ a = 0 → z_J G Z d Q (tgt) ls st M k n) (kf : a = 0 → z_J G Z d Q (pc + 3) ls st M k n) : z_J G Z d Q (pc) ls (z_I a :: st) M k n :=
  fun hO H locs la hW hS hL => lv_if_ne hO.1 hO.2.1 hd ht (fun h => kt (((not_congr (z_eq32 ha z_rg0))).mp h) hO H locs la hW hS hL) (fun h => kf ((z_eq32 ha z_rg0).mp h) hO H locs la hW hS hL)
theorem z_icmp_lt {a b : Int} {off : Int} {tgt : Nat} (ha : z_rg a) (hb : z_rg b) (hd : decode (z_cc d) pc = .ok (.if_icmp .lt off, 3)) (ht : (pc : Int) + off = (tgt : Int)) (kt : a < b → z_J G Z d Q (tgt) ls st M k n) (kf : ¬ a < b → z_J G Z d Q (pc + 3) ls st M k n) : z_J G Z d Q (pc) ls (z_I b :: z_I a :: st) M k n :=
  fun hO H locs la hW hS hL => lv_icmp_lt hO.1 hO.2.1 hd ht (fun h => kt ((z_lt32 ha hb).mp h) hO H locs la hW hS hL) (fun h => kf (fun h2 => h ((z_lt32 ha hb).mpr h2)) hO H locs la hW hS hL)
theorem z_if_lt {a : Int} {off : Int} {tgt : Nat} (ha : z_rg a) (hd : decode (z_cc d) pc = .ok (.ifCond .lt off, 3)) (ht : (pc : Int) + off = (tgt : Int)) (kt : a < 0 → z_J G Z d Q (tgt) ls st M k n) (kf : ¬ a < 0 → z_J G Z d Q (pc + 3) ls st M k n) : z_J G Z d Q (pc) ls (z_I a :: st) M k n :=
  fun hO H locs la hW hS hL => lv_if_lt hO.1 hO.2.1 hd ht (fun h => kt ((z_lt32 ha z_rg0).mp h) hO H locs la hW hS hL) (fun h => kf (fun h2 => h ((z_lt32 ha z_rg0).mpr h2)) hO H locs la hW hS hL)
theorem z_icmp_ge {a b : Int} {off : Int} {tgt : Nat} (ha : z_rg a) (hb : z_rg b) (hd : decode (z_cc d) pc = .ok (.if_icmp .ge off, 3)) (ht : (pc : Int) + off = (tgt : Int)) (kt : b ≤ a → z_J G Z d Q (tgt) ls st M k n) (kf : ¬ b ≤ a → z_J G Z d Q (pc + 3) ls st M k n) : z_J G Z d Q (pc) ls (z_I b :: z_I a :: st) M k n :=
  fun hO H locs la hW hS hL => lv_icmp_ge hO.1 hO.2.1 hd ht (fun h => kt ((z_le32 hb ha).mp h) hO H locs la hW hS hL) (fun h => kf (fun h2 => h ((z_le32 hb ha).mpr h2)) hO H locs la hW hS hL)
theorem z_if_ge {a : Int} {off : Int} {tgt : Nat} (ha : z_rg a) (hd : decode (z_cc d) pc = .ok (.ifCond .ge off, 3)) (ht : (pc : Int) + off = (tgt : Int)) (kt : 0 ≤ a → z_J G Z d Q (tgt) ls st M k n) (kf : ¬ 0 ≤ a → z_J G Z d Q (pc + 3) ls st M k n) : z_J G Z d Q (pc) ls (z_I a :: st) M k n :=
  fun hO H locs la hW hS hL => lv_if_ge hO.1 hO.2.1 hd ht (fun h => kt ((z_le32 z_rg0 ha).mp h) hO H locs la hW hS hL) (fun h => kf (fun h2 => h ((z_le32 z_rg0 ha).mpr h2)) hO H locs la hW hS hL)
theorem z_icmp_gt {a b : Int} {off : Int} {tgt : Nat} (ha : z_rg a) (hb : z_rg b) (hd : decode (z_cc d) pc = .ok (.if_icmp .gt off, 3)) (ht : (pc : Int) + off = (tgt : Int)) (kt : b < a → z_J G Z d Q (tgt) ls st M k n) (kf : ¬ b < a → z_J G Z d Q (pc + 3) ls st M k n) : z_J G Z d Q (pc) ls (z_I b :: z_I a :: st) M k n :=
  fun hO H locs la hW hS hL => lv_icmp_gt hO.1 hO.2.1 hd ht (fun h => kt ((z_lt32 hb ha).mp h) hO H locs la hW hS hL) (fun h => kf (fun h2 => h ((z_lt32 hb ha).mpr h2)) hO H locs la hW hS hL)
theorem z_if_gt {a : Int} {off : Int} {tgt : Nat} (ha : z_rg a) (hd : decode (z_cc d) pc = .ok (.ifCond .gt off, 3)) (ht : (pc : Int) + off = (tgt : Int)) (kt : 0 < a → z_J G Z d Q (tgt) ls st M k n) (kf : ¬ 0 < a → z_J G Z d Q (pc + 3) ls st M k n) : z_J G Z d Q (pc) ls (z_I a :: st) M k n :=
  fun hO H locs la hW hS hL => lv_if_gt hO.1 hO.2.1 hd ht (fun h => kt ((z_lt32 z_rg0 ha).mp h) hO H locs la hW hS hL) (fun h => kf (fun h2 => h ((z_lt32 z_rg0 ha).mpr h2)) hO H locs la hW hS hL)
theorem z_icmp_le {a b : Int} {off : Int} {tgt : Nat} (ha : z_rg a) (hb : z_rg b) (hd : decode (z_cc d) pc = .ok (.if_icmp .le off, 3)) (ht : (pc : Int) + off = (tgt : Int)) (kt : a ≤ b → z_J G Z d Q (tgt) ls st M k n) (kf : ¬ a ≤ b → z_J G Z d Q (pc + 3) ls st M k n) : z_J G Z d Q (pc) ls (z_I b :: z_I a :: st) M k n :=
  fun hO H locs la hW hS hL => lv_icmp_le hO.1 hO.2.1 hd ht (fun h => kt ((z_le32 ha hb).mp h) hO H locs la hW hS hL) (fun h => kf (fun h2 => h ((z_le32 ha hb).mpr h2)) hO H locs la hW hS hL)
theorem z_if_le {a : Int} {off : Int} {tgt : Nat} (ha : z_rg a) (hd : decode (z_cc d) pc = .ok (.ifCond .le off, 3)) (ht : (pc : Int) + off = (tgt : Int)) (kt : a ≤ 0 → z_J G Z d Q (tgt) ls st M k n) (kf : ¬ a ≤ 0 → z_J G Z d Q (pc + 3) ls st M k n) : z_J G Z d Q (pc) ls (z_I a :: st) M k n :=
  fun hO H locs la hW hS hL => lv_if_le hO.1 hO.2.1 hd ht (fun h => kt ((z_le32 ha z_rg0).mp h) hO H locs la hW hS hL) (fun h => kf (fun h2 => h ((z_le32 ha z_rg0).mpr h2)) hO H locs la hW hS hL)
theorem z_goto {off : Int} {tgt : Nat} (hd : decode (z_cc d) pc = .ok (.goto off, 3)) (ht : (pc : Int) + off = (tgt : Int)) (kk : z_J G Z d Q (tgt) ls st M k n) : z_J G Z d Q (pc) ls st M k n :=
  fun hO H locs la hW hS hL => lv_goto hO.1 hO.2.1 hd ht (kk hO H locs la hW hS hL)
theorem z_tabOut {dflt lo hi : Int} {offs : Array Int} {len tgt : Nat} {a : Int} (hd : decode (z_cc d) pc = .ok (.tableswitch dflt lo hi offs, len)) (ha : z_rg a) (h : a < lo ∨ hi < a) (ht : (pc : Int) + dflt = (tgt : Int)) (kk : z_J G Z d Q (tgt) ls st M k n) : z_J G Z d Q (pc) ls (z_I a :: st) M k n :=
  fun hO H locs la hW hS hL => lv_tableOut hO.1 hO.2.1 hd (by rw [z_toI ha]; exact h) ht (kk hO H locs la hW hS hL)
theorem z_tabIn {dflt lo hi : Int} {offs : Array Int} {len tgt : Nat} {a off : Int} (hd : decode (z_cc d) pc = .ok (.tableswitch dflt lo hi offs, len)) (ha : z_rg a) (h1 : ¬ a < lo) (h2 : ¬ hi < a) (ho : offs[(a - lo).toNat]? = some off) (ht : (pc : Int) + off = (tgt : Int)) (kk : z_J G Z d Q (tgt) ls st M k n) : z_J G Z d Q (pc) ls (z_I a :: st) M k n :=
  fun hO H locs la hW hS hL => lv_tableIn hO.1 hO.2.1 hd (by rw [z_toI ha]; exact h1) (by rw [z_toI ha]; exact h2) (by rw [z_toI ha]; exact ho) ht (kk hO H locs la hW hS hL)
theorem z_lookup {dflt : Int} {ps : Array (Int × Int)} {len tgt : Nat} {a off : Int} (hd : decode (z_cc d) pc = .ok (.lookupswitch dflt ps, len)) (ha : z_rg a) (hp : (ps.toList.zip (ps.toList.drop 1)).all (fun (a, next) => a.1 < next.1) = true) (ho : Op.lookupswitch.offset ps.toList dflt a = off) (ht : (pc : Int) + off = (tgt : Int)) (kk : z_J G Z d Q (tgt) ls st M k n) : z_J G Z d Q (pc) ls (z_I a :: st) M k n :=
  fun hO H locs la hW hS hL => lv_lookup hO.1 hO.2.1 hd hp (by rw [z_toI ha]; exact ho) ht (kk hO H locs la hW hS hL)
theorem z_rng (kk : (∀ (a : Nat) (i : Int), a ≠ 20 → z_rg (M a i)) → z_J G Z d Q (pc) ls st M k n) : z_J G Z d Q (pc) ls st M k n :=
  fun hO H locs la hW hS hL => kk hW.2.1 hO H locs la hW hS hL
theorem z_wide {k' n' : Nat} (h1 : k ≤ k') (h2 : n ≤ n') (kk : z_J G Z d Q pc ls st M k' n') : z_J G Z d Q (pc) ls st M k n :=
  fun hO H locs la hW hS hL => W.widen h1 h2 (kk hO H locs la hW hS hL)
theorem z_alen {g c t a m : Nat} {ix : Int → Int} (hal : z_al g c = some (t, a, m, ix)) (hdm : z_dm g c) (hd : decode (z_cc d) pc = .ok (.arraylength, 1)) (kk : z_J G Z d Q (pc + 1) ls (z_I (m : Int) :: st) M k n) : z_J G Z d Q (pc) ls (.ref (z_ad G g c) :: st) M k n :=
  fun hO H locs la hW hS hL => by
    have hc := (hW.2.2 g c hdm).2 t a m ix hal
    have hK := hO.2.2.2.2.2.2.2.2.1.2
    rcases z_al_t hal with rfl | rfl | rfl
    · exact W.alen (n := Int32.ofInt (m : Int)) hO.1 hO.2.1 hc ((hK 0 _ rfl).1 m _) (by rw [arrV_size]; rfl) rfl rfl hd (kk hO H locs la hW hS hL)
    · exact W.alen (n := Int32.ofInt (m : Int)) hO.1 hO.2.1 hc ((hK 1 _ rfl).1 m _) (by rw [arrV_size]; rfl) rfl rfl hd (kk hO H locs la hW hS hL)
    · exact W.alen (n := Int32.ofInt (m : Int)) hO.1 hO.2.1 hc ((hK 2 _ rfl).1 m _) (by rw [arrV_size]; rfl) rfl rfl hd (kk hO H locs la hW hS hL)
theorem z_iald {g c a m : Nat} {ix : Int → Int} {i : Int} (hal : z_al g c = some (0, a, m, ix)) (hdm : z_dm g c) (h0 : 0 ≤ i) (h1 : i < (m : Int)) (hm : m ≤ 6000) (hd : decode (z_cc d) pc = .ok (.iaload, 1)) (kk : z_J G Z d Q (pc + 1) ls (z_I (M a (ix i)) :: st) M k n) : z_J G Z d Q (pc) ls (z_I i :: .ref (z_ad G g c) :: st) M k n :=
  fun hO H locs la hW hS hL => by
    have hc := (hW.2.2 g c hdm).2 0 a m ix hal
    have hK := hO.2.2.2.2.2.2.2.2.1.2
    have e : (Int32.ofInt i).toNatClampNeg = i.toNat := z_clamp h0 (by omega)
    have e2 : ((i.toNat : Nat) : Int) = i := Int.toNat_of_nonneg h0
    refine W.iald (v := z_I (M a (ix i))) hO.1 hO.2.1 hc ((hK 0 _ rfl).1 m _) (fun q => by cases q) (by rw [arrV_size]; exact z_vp h0 h1 (by omega)) ?_ rfl rfl hd (kk hO H locs la hW hS hL)
    rw [e, arrV_read _ _ (by omega)]
    show some (z_I (M a (ix ((i.toNat : Nat) : Int)))) = _
    rw [e2]
theorem z_obal {g c : Nat} {x : Nat × List z_F} (h : z_ob g c = some x) : z_al g c = none := by
  unfold z_ob at h
  split at h <;> first | rfl | cases h
theorem z_iast {g c a m : Nat} {ix : Int → Int} {i v : Int} (hal : z_al g c = some (0, a, m, ix)) (hdm : z_dm g c) (h0 : 0 ≤ i) (h1 : i < (m : Int)) (hm : m ≤ 6000) (hv : z_rg v) (hd : decode (z_cc d) pc = .ok (.iastore, 1)) (kk : z_J G Z d Q (pc + 1) ls st (z_sM M a (ix i) v) k n) : z_J G Z d Q (pc) ls (z_I v :: z_I i :: .ref (z_ad G g c) :: st) M k n :=
  fun hO H locs la hW hS hL => by
    have hc := (hW.2.2 g c hdm).2 0 a m ix hal
    have hK := hO.2.2.2.2.2.2.2.2.1.2
    have e : (Int32.ofInt i).toNatClampNeg = i.toNat := z_clamp h0 (by omega)
    have e2 : ((i.toNat : Nat) : Int) = i := Int.toNat_of_nonneg h0
    refine W.iast hO.1 hO.2.1 hc ((hK 0 _ rfl).1 m _) (fun q => by cases q) (by rw [arrV_size]; exact z_vp h0 h1 (by omega)) rfl rfl hd fun H' e1 z oq => ?_
    refine kk hO H' _ la (z_Wd_put hW hdm z oq (fun _ => hv) ?_ ?_) (hS.put z oq (z_in g c)) hL
    · have h := z_owA hdm hal (by decide) i.toNat (by omega)
      rwa [e2] at h
    · refine ⟨fun ci fs ho => ?_, fun t a' m' ix' ha' => ?_⟩
      · have h := z_obal ho
        rw [hal] at h
        cases h
      · rw [hal] at ha'
        cases ha'
        rw [e1, e, arrV_store]
        congr 1
        refine z_arrV_eq fun j hj => ?_
        show updV _ _ _ _ = z_I (z_sM M a (ix i) v a (ix j))
        unfold updV z_sM
        by_cases hji : j = i.toNat
        · rw [if_pos hji, if_pos ⟨rfl, by rw [hji, e2]⟩]
          rfl
        · rw [if_neg hji, if_neg]
          · rfl
          · rintro ⟨-, h⟩
            exact hji (z_al_inj hal j i.toNat (by rw [e2]; exact h))
end ZR
end
section
/-! ===== fields, contracts, calls, ends, throws ===== -/
section ZC
variable {G : z_G} {Z : z_Z} {d : z_Md} {Q : State → Prop} {pc : Nat} {ls : List (Option Value)} {st : List Value} {M : z_M} {k n : Nat}
theorem z_fdat {fs : List z_F} {j : Nat} {f : z_F} (hf : fs[j]? = some f) : fs.getD j (0, 0, 0) = f := by
  rw [List.getD_eq_getElem?_getD, hf]; rfl
theorem z_getf {C : String} {T : u_T} {N ci idx kf g c : Nat} {fs : List z_F} {f : z_F} (hC : vwCl[ci]? = some (C, T, N)) (hin : ∀ w ∈ u_ws C T N, w ∈ z_W) (hlink : Cond.fieldLink (z_own d) idx C (T kf).2.1 (T kf).2.2.1 ∈ z_W)
    (hself : (T kf).1 = C) (hob : z_ob g c = some (ci, fs)) (hkN : kf < N) (hN : fs.length = N) (hf : fs[kf]? = some f) (hdm : z_dm g c) (hd : decode (z_cc d) pc = .ok (.getfield idx, 3))
    (kk : z_J G Z d Q (pc + 3) ls (z_fv G M f :: st) M k n) : z_J G Z d Q pc ls (.ref (z_ad G g c) :: st) M k n := fun hO H locs la hW hS hL => by
  obtain ⟨cell, q1, q2, q3, q4⟩ := (hW.2.2 g c hdm).1 ci fs hob
  obtain ⟨hS0, hfc, kC, hkC, hkind⟩ := hO.2.2.2.2.2.2.2.2.1.1 ci _ hC
  obtain ⟨cf, kf', fi, fd, hi, hsl⟩ := hS0 kf hkN
  have hi' : (z_s Z).fieldFound? C (T kf).2.1 (T kf).2.2.1 = some (cf, kf', fi, fd) := by rw [← hi]; dsimp only; rw [hself]
  have hts : ∀ w ∈ u_ws C T N, w.before (z_a Z) (z_s Z) = true := fun w hw => z_tw hO (hin w hw) _
  refine W.getf hO.1 hO.2.1 hO.2.2.2.1 (z_tw hO hlink _) hi' (u_facts hfc hkC (u_lays hts (fun _ h => h) hkN) hi).1 q1 (by rw [q3]; exact fun h => by cases h) (v := z_fv G M f) ?_ rfl rfl hd (kk hO H locs la hW hS hL)
  rw [hsl, q4 kf (by rw [hN]; exact hkN)]
  dsimp only
  rw [z_fdat hf]
/-- the value that a slot takes: an int, a long, or the number of a state -/
def z_pv (G : z_G) (t : Nat) (v : Int) : Value := if t = 0 then z_I v else if t = 3 then z_L v else .ref (z_ad G v.toNat 0)
theorem z_putf {C : String} {T : u_T} {N ci idx kf g c t a : Nat} {i v : Int} {fs : List z_F} (hC : vwCl[ci]? = some (C, T, N)) (hin : ∀ w ∈ u_ws C T N, w ∈ z_W) (ty0 : Nat → FieldType) (hty : ∀ k, k < N → parseFieldDescriptor (T k).2.2.1 = some (ty0 k)) (hnm : ∀ a, a < N → ∀ b, b < N → a ≠ b → (T a).2.1 ≠ (T b).2.1)
    (hlink : Cond.fieldLink (z_own d) idx C (T kf).2.1 (T kf).2.2.1 ∈ z_W) (hself : (T kf).1 = C) (hfin : (T kf).2.2.2 = false) (hob : z_ob g c = some (ci, fs)) (hkN : kf < N) (hN : fs.length = N) (hf : fs[kf]? = some (t, a, i)) (ht1 : t = 0 ∨ t = 2 ∨ t = 3)
    (hnar : narrow (ty0 kf) (z_pv G t v) = z_pv G t v) (hfit : fits (ty0 kf) (z_pv G t v) = true) (hdm : z_dm g c) (hv : a ≠ 20 → z_rg v) (hd : decode (z_cc d) pc = .ok (.putfield idx, 3))
    (kk : z_J G Z d Q (pc + 3) ls st (z_sM M a i v) k n) : z_J G Z d Q pc ls (z_pv G t v :: .ref (z_ad G g c) :: st) M k n := fun hO H locs la hW hS hL => by
  obtain ⟨cell, q1, q2, q3, q4⟩ := (hW.2.2 g c hdm).1 ci fs hob
  have hK := hO.2.2.2.2.2.2.2.2.1
  obtain ⟨hS0, hfc, kC, hkC, hkind⟩ := hK.1 ci _ hC
  obtain ⟨cf, kf', fi, fd, hi, hsl⟩ := hS0 kf hkN
  have hi' : (z_s Z).fieldFound? C (T kf).2.1 (T kf).2.2.1 = some (cf, kf', fi, fd) := by rw [← hi]; dsimp only; rw [hself]
  have hts : ∀ w ∈ u_ws C T N, w.before (z_a Z) (z_s Z) = true := fun w hw => z_tw hO (hin w hw) _
  have hap := va_apart (own := C) (args := z_a Z) hts (fun _ h => h) ty0 hty hnm hK hC
  have hlay := hts _ (u_in_lay hkN)
  unfold u_lay at hlay
  rw [if_neg (by rw [hfin]; decide)] at hlay
  have hst := (u_facts hfc hkC (u_lays hts (fun _ h => h) hkN) hi).1
  have h6 := u_store hfc hkC hkind hlay hi (hty kf hkN) hnar hfit
  have hkl : kf < fs.length := by rw [hN]; exact hkN
  refine W.putK hO.1 hO.2.1 (f := fd) ⟨hO.2.2.2.1, z_tw hO hlink _, ⟨_, _, _, hi'⟩, hst⟩ (by rw [q2]; exact h6) q1 q3 (by rw [hsl]; exact k2_hasslot (q4 kf hkl)) rfl rfl hd fun H' e1 e2 e3 => ?_
  rw [hsl] at e1 ⊢
  refine kk hO H' _ la (z_Wd_put hW hdm e2 e3 hv (z_owO hdm hob kf hf (by omega)) ?_) (hS.put e2 e3 (z_in g c)) hL
  refine ⟨fun ci' fs' ho => ?_, fun t' a' m' ix' ha' => ?_⟩
  · rw [hob] at ho
    cases ho
    have h7 := t_set (V := fun j => z_fv G M (fs.getD j (0, 0, 0))) (v := z_pv G t v) (N := fs.length) q4 (fun x y hx hy => hap x y (by rw [← hN]; exact hx) (by rw [← hN]; exact hy)) hkl
    refine t_OB.to ⟨_, e1, q2, q3, h7⟩ fun j hj => ?_
    unfold updV
    by_cases hjk : j = kf
    · subst hjk
      rw [if_pos rfl, z_fdat hf]
      rcases ht1 with rfl | rfl | rfl
      · show z_I v = z_I (z_sM M a i v a i)
        unfold z_sM; rw [if_pos ⟨rfl, rfl⟩]
      · show Value.ref (z_ad G v.toNat 0) = Value.ref (z_ad G (z_sM M a i v a i).toNat 0)
        unfold z_sM; rw [if_pos ⟨rfl, rfl⟩]
      · show z_L v = z_L (z_sM M a i v a i)
        unfold z_sM; rw [if_pos ⟨rfl, rfl⟩]
    · rw [if_neg hjk]
      have e : fs[j]? = some fs[j] := List.getElem?_eq_getElem hj
      show z_fv G M (fs.getD j (0, 0, 0)) = z_fv G (z_sM M a i v) (fs.getD j (0, 0, 0))
      rw [z_fdat e]
      rcases hfj : fs[j] with ⟨t', a', i'⟩
      refine z_fv_eq fun ht' => ?_
      unfold z_sM
      rw [if_neg]
      rintro ⟨rfl, rfl⟩
      exact hjk (z_okl_use (z_ob_inj hdm hob) (by rw [e, hfj]) hf ht' (by omega))
  · have h := z_obal hob
    rw [h] at ha'
    cases ha'
theorem z_aald {i : Int} (h0 : 0 ≤ i) (h1 : i < 7) (hd : decode (z_cc d) pc = .ok (.aaload, 1)) (kk : z_J G Z d Q (pc + 1) ls (.ref (z_ad G i.toNat 0) :: st) M k n) : z_J G Z d Q pc ls (z_I i :: .ref (z_ad G 0 21) :: st) M k n :=
  fun hO H locs la hW hS hL => by
    have hc := (hW.2.2 0 21 (by decide)).2 4 99 7 _ rfl
    have hK := hO.2.2.2.2.2.2.2.2.1.2
    have e : (Int32.ofInt i).toNatClampNeg = i.toNat := z_clamp h0 (by omega)
    refine W.aald (v := .ref (z_ad G i.toNat 0)) (ty := .object "PenGuild$State") hO.1 hO.2.1 hc ((hK 2 _ rfl).1 7 _) rfl (fun q => by cases q) (by rw [arrV_size]; exact z_vp h0 h1 (by omega)) ?_ rfl rfl hd (kk hO H locs la hW hS hL)
    rw [e, arrV_read _ _ (by omega)]
    rfl
theorem z_lald (hd : decode (z_cc d) pc = .ok (.laload, 1)) (kk : z_J G Z d Q (pc + 1) ls (z_L (M 32 0) :: st) M k n) : z_J G Z d Q pc ls (z_I 0 :: .ref (z_ad G 0 60) :: st) M k n :=
  fun hO H locs la hW hS hL => by
    have hc := (hW.2.2 0 60 (by decide)).2 3 32 1 _ rfl
    have hK := hO.2.2.2.2.2.2.2.2.1.2
    have e : (Int32.ofInt 0).toNatClampNeg = 0 := by decide
    refine W.lald (v := z_L (M 32 0)) hO.1 hO.2.1 hc ((hK 1 _ rfl).1 1 _) (fun q => by cases q) (by rw [arrV_size]; exact z_vp (by decide) (by decide) (by omega)) ?_ rfl rfl hd (kk hO H locs la hW hS hL)
    rw [e, arrV_read _ _ (by omega)]
    rfl
theorem z_last {v : Int} (hv : z_rg v) (hd : decode (z_cc d) pc = .ok (.lastore, 1)) (kk : z_J G Z d Q (pc + 1) ls st (z_sM M 32 0 v) k n) : z_J G Z d Q pc ls (z_L v :: z_I 0 :: .ref (z_ad G 0 60) :: st) M k n :=
  fun hO H locs la hW hS hL => by
    have hal : z_al 0 60 = some (3, 32, 1, fun p => p) := rfl
    have hc := (hW.2.2 0 60 (by decide)).2 3 32 1 _ rfl
    have hK := hO.2.2.2.2.2.2.2.2.1.2
    have e : (Int32.ofInt 0).toNatClampNeg = 0 := by decide
    refine W.last hO.1 hO.2.1 hc ((hK 1 _ rfl).1 1 _) (fun q => by cases q) (by rw [arrV_size]; exact z_vp (by decide) (by decide) (by omega)) rfl rfl hd fun H' e1 z oq => ?_
    refine kk hO H' _ la (z_Wd_put hW (by decide) z oq (fun _ => hv) rfl ?_) (hS.put z oq (z_in 0 60)) hL
    refine ⟨fun ci fs ho => (by cases ho), fun t a' m' ix' ha' => ?_⟩
    cases ha'
    rw [e1, e, arrV_store]
    congr 1
/-- the most of a setting -/
theorem z_greatest {i : Int} {x : Nat} (h0 : 0 ≤ i) (h1 : i < 6) (hlink : Cond.fieldLink (z_own d) x "PenGuild" "GREATEST_SETTINGS" "[I" ∈ z_W) (hd : decode (z_cc d) pc = .ok (.getstatic x, 3)) (kk : z_J G Z d Q (pc + 3) ls (.ref (z_gs G) :: st) M k n) : z_J G Z d Q pc ls st M k n :=
  fun hO H locs la hW hS hL => va_gets hO.1 hO.2.1 hO.2.2.2.2.2.2.2.2.2.2.2.2.1.1 hS hO.2.2.2.1 (z_tw hO hlink _) (fun _ h => h) hd (kk hO H locs la hW hS hL)
theorem z_greatest_ld {i : Int} (h0 : 0 ≤ i) (h1 : i < 6) (hd : decode (z_cc d) pc = .ok (.iaload, 1)) (kk : z_J G Z d Q (pc + 1) ls (z_I (z_most i.toNat) :: st) M k n) : z_J G Z d Q pc ls (z_I i :: .ref (z_gs G) :: st) M k n :=
  fun hO H locs la hW hS hL => by
    obtain ⟨cell, t1, t2, t3, t4, t5, t6, t7⟩ := va_T.kept hO.2.2.2.2.2.2.2.2.2.2.2.2.1.2 (fun a ha hA => hS.2.1 a ha hA)
    have e : (Int32.ofInt i).toNatClampNeg = i.toNat := z_clamp h0 (by omega)
    refine W.iald (v := z_I (z_most i.toNat)) hO.1 hO.2.1 t1 t2 t3 ?_ ?_ rfl rfl hd (kk hO H locs la hW hS hL)
    · rintro (h | h)
      · exact z_vp (n := 6) h0 h1 (by omega) (Or.inl h)
      · rw [e] at h; omega
    · rw [e]; exact t6 _ (by omega)
end ZC
end
section
/-! ===== contracts ===== -/
def z_ls : List Value → List (Option Value)
  | [] => []
  | v :: vs => if v.category = 2 then some v :: none :: z_ls vs else some v :: z_ls vs
theorem z_ls_in : ∀ (vs : List Value) (k i : Nat) (v : Value), (z_ls vs)[i]? = some (some v) → (k + i, v) ∈ lv_args k vs
  | [], k, i, v, h => by simp [z_ls] at h
  | a :: vs, k, i, v, h => by
    unfold z_ls at h
    unfold lv_args
    by_cases hc : a.category = 2
    · rw [if_pos hc] at h ⊢
      match i, h with
      | 0, h => cases h; exact List.mem_cons_self
      | 1, h => cases h
      | i + 2, h =>
        have := z_ls_in vs (k + 2) i v h
        rw [show k + 2 + i = k + (i + 2) by omega] at this
        exact List.mem_cons_of_mem _ this
    · rw [if_neg hc] at h ⊢
      match i, h with
      | 0, h => cases h; exact List.mem_cons_self
      | i + 1, h =>
        have := z_ls_in vs (k + 1) i v h
        rw [show k + 1 + i = k + (i + 1) by omega] at this
        exact List.mem_cons_of_mem _ this
def z_ini (args : List Value) (n : Nat) : List (Option Value) := z_ls args ++ List.replicate (n - (z_ls args).length) none
theorem z_ini_LH {args : List Value} {n : Nat} {la : Array Slot} (h : lv_has la n (lv_args 0 args)) : z_LH la n (z_ini args n) := by
  refine ⟨h.1, h.2.1, fun i v hi => ?_⟩
  unfold z_ini at hi
  by_cases hl : i < (z_ls args).length
  · rw [List.getElem?_append_left hl] at hi
    have := z_ls_in args 0 i v hi
    rw [Nat.zero_add] at this
    exact h.2.2 _ this
  · rw [List.getElem?_append_right (by omega), List.getElem?_replicate] at hi
    split at hi <;> cases hi
abbrev z_O : Type := (Option Value) ⊕ String
def z_oc (o : z_O) : Nat := match o with | .inl _ => 0 | .inr _ => 1
def z_os (o : z_O) : Nat := match o with | .inl _ => 0 | .inr _ => 6
def z_rm (fr lo : Nat) (o : z_O) : Room := { frames := fr, cells := z_oc o, slots := z_os o, locals := lo }
def z_Qc (G : z_G) (o : z_O) (M1 : z_M) : Array Value → State → Outcome → State → Prop := fun _ st oc t => ∃ v, o = .inl v ∧ oc = .returned v ∧ z_Wd G M1 t.heap ∧ va_F (z_A G) st t
def z_Xc (G : z_G) (o : z_O) (M1 : z_M) : String → State → State → Prop := fun E st t => o = .inr E ∧ z_Wd G M1 t.heap ∧ va_F (z_A G) st t
def z_Pc (G : z_G) (args : List Value) (M : z_M) : Array Value → State → Prop := va_Pc args (fun U => z_T G U ∧ z_Wd G M U.heap)
/-- method y, called with args over the memory M: it ends so (a value, or a class of exceptions), the memory is M1 then -/
def z_Con (G : z_G) (y : MethodName) (cc : ByteArray) (maxL : Nat) (ret : Option FieldType) (fr lo : Nat) (args : List Value) (M : z_M) (o : z_O) (M1 : z_M) : Prop :=
  vx_Met (z_l G) y [Cond.code y cc maxL ret] (z_rm fr lo o) (z_Pc G args M) (z_Qc G o M1) (z_Xc G o M1) (z_oc o) (z_os o) (z_A G)
def z_Qm (G : z_G) (Z : z_Z) (o : z_O) (M1 : z_M) : State → Prop := vx_MQ (z_w Z) (z_Qc G o M1) (z_Xc G o M1) (z_a Z) (z_s Z) (z_oc o) (z_os o) (z_A G)
def z_tb (Z : z_Z) : Prop := ∀ x ∈ (z_c Z).exceptionTable.toList, False
theorem z_blind {G : z_G} {args : List Value} {M : z_M} : FrameBlind (z_Pc G args M) := by
  rintro a U g mk ⟨h1, h2, h3⟩
  refine ⟨h1, z_T_moved (s := U) h2 (by exact State.WarmedH.refl U) (fun _ _ _ => rfl), h3⟩
theorem z_con {G : z_G} {y : MethodName} {cc : ByteArray} {maxL : Nat} {ret : Option FieldType} {fr lo : Nat} {args : List Value} {M : z_M} {o : z_O} {M1 : z_M} {ls : List (Option Value)} (hy : plainName y.cls = true) (hn : (lg_sl args).length ≤ maxL) (hls : z_ini args maxL = ls)
    (h : ∀ Z, z_tb Z → z_J G Z (cc, maxL, y.cls, z_rm fr lo o, ret) (z_Qm G Z o M1) 0 ls [] M 0 0) : z_Con G y cc maxL ret fr lo args M o M1 := by
  refine vx_ofW (cc := cc) (maxL := maxL) (ret := ret) hy rfl ?_
  intro p e s m args' below meth c s₁ B hml htab hv
  obtain ⟨rfl, hT, hWd⟩ := hv
  have hl := lv_entry args (n := maxL) hn
  rw [lg_entry_eq]
  refine h (p, e, s, m, args.toArray, below, meth, c) htab ⟨B.exec, B.bytes, hml, findClass_of_methodNamed B.named, B.notSynchronized, B.returns, hT⟩ s.heap [] _ hWd va_S.rf ?_
  rw [← hls]
  exact z_ini_LH hl
section ZE
variable {G : z_G} {Z : z_Z} {pc : Nat} {ls : List (Option Value)} {M M1 : z_M} {cc : ByteArray} {nL : Nat} {own : String} {R : Room}
theorem z_iret {r r' : Int} (hd : decode cc pc = .ok (.ireturn, 1)) (hr : r' = r) (hM : M = M1) : z_J G Z (cc, nL, own, R, some .int) (z_Qm G Z (.inl (some (z_I r))) M1) pc ls [z_I r'] M 0 0 := fun hO H locs la hW hS hL => by
  subst hr; subst hM
  exact vx_ret (W.iret hO.1 hO.2.1 hO.2.2.2.2.2.1 (fun t ht hw => ⟨_, rfl, rfl, by rw [ht]; exact hW, hS.F ht⟩) hS.2.2 hd hO.2.2.2.2.1)
theorem z_zret {r r' : Int} (hd : decode cc pc = .ok (.ireturn, 1)) (hr : r' = r) (hM : M = M1) (hb : r = 0 ∨ r = 1) : z_J G Z (cc, nL, own, R, some .boolean) (z_Qm G Z (.inl (some (z_I r))) M1) pc ls [z_I r'] M 0 0 := fun hO H locs la hW hS hL => by
  subst hr; subst hM
  refine vx_ret (W.zret hO.1 hO.2.1 hO.2.2.2.2.2.1 ?_ (fun t ht hw => ⟨_, rfl, rfl, by rw [ht]; exact hW, hS.F ht⟩) hS.2.2 hd hO.2.2.2.2.1)
  rcases hb with rfl | rfl <;> rfl
theorem z_vret (hd : decode cc pc = .ok (.return_, 1)) (hM : M = M1) : z_J G Z (cc, nL, own, R, none) (z_Qm G Z (.inl none) M1) pc ls [] M 0 0 := fun hO H locs la hW hS hL => by
  subst hM
  exact vx_ret (W.vret hO.1 hO.2.1 hO.2.2.2.2.2.1 (fun t ht hw => ⟨_, rfl, rfl, by rw [ht]; exact hW, hS.F ht⟩) hS.2.2 hd hO.2.2.2.2.1)
theorem z_lret {r r' : Int} (hd : decode cc pc = .ok (.lreturn, 1)) (hr : r' = r) (hM : M = M1) : z_J G Z (cc, nL, own, R, some .long) (z_Qm G Z (.inl (some (z_L r))) M1) pc ls [z_L r'] M 0 0 := fun hO H locs la hW hS hL => by
  subst hr; subst hM
  exact vx_ret (W.lret hO.1 hO.2.1 hO.2.2.2.2.2.1 (fun t ht hw => ⟨_, rfl, rfl, by rw [ht]; exact hW, hS.F ht⟩) hS.2.2 hd hO.2.2.2.2.1)
theorem z_dret {r r' : UInt64} (hd : decode cc pc = .ok (.dreturn, 1)) (hr : r' = r) (hM : M = M1) : z_J G Z (cc, nL, own, R, some .double) (z_Qm G Z (.inl (some (.double r))) M1) pc ls [.double r'] M 0 0 := fun hO H locs la hW hS hL => by
  subst hr; subst hM
  have hlk := hO.2.2.2.2.1
  exact vx_ret (W.dret hO.1 hO.2.1 hO.2.2.2.2.2.1 (fun t ht hw => ⟨_, rfl, rfl, by rw [ht]; exact hW, hS.F ht⟩) hS.2.2 hd)
end ZE
section ZK
variable {G : z_G} {Z : z_Z} {d : z_Md} {Q : State → Prop} {pc : Nat} {ls : List (Option Value)} {M M1 : z_M} {k n : Nat}
variable {y : MethodName} {cc' : ByteArray} {maxL fr lo idx na : Nat} {ret : Option FieldType} {As rest st : List Value} {v : Option Value} {E : String}
/-- what a call needs of the room -/
def z_fit (d : z_Md) (fr lo maxL : Nat) : Prop := fr + 1 ≤ (z_R d).frames ∧ 8 + (maxL + 11) + lo ≤ (z_R d).locals
def z_name (y : MethodName) (na : Nat) : Prop := (y.cls ≠ "java/lang/invoke/MethodHandle" ∧ y.cls ≠ "java/lang/invoke/VarHandle") ∧ (parseMethodDescriptor y.desc).map (fun q => q.parameters.length) = some na
theorem z_nm (hy : z_name y na) : ∀ sig, parseMethodDescriptor y.desc = some sig → na = sig.parameters.length := fun sig h => by
  have h2 := hy.2
  rw [h] at h2
  exact (Option.some.inj h2).symm
theorem z_ws1 (hO : z_Ok G Z d) (hcode : Cond.code y cc' maxL ret ∈ z_W) : ∀ w ∈ ([Cond.code y cc' maxL ret] : List Cond), ∀ (a' : Array Value) (U : State), (z_s Z).WarmedH U.vm → w.before a' U = true := by
  intro w hw a' U hW
  rw [List.mem_singleton] at hw
  subst hw
  exact z_warmw (List.mem_filter.mp hcode).2 hW (hO.2.2.2.2.2.2.2.1 _ hcode) a'
theorem z_PcU (hO : z_Ok G Z d) {H : Heap} {locs : List Loc} {args : List Value} (hW : z_Wd G M H) (hS : va_S (z_A G) (z_s Z).heap H locs) : ∀ U : State, U.heap = H → (z_s Z).WarmedH U.vm → z_Pc G args M args.toArray U := by
  intro U hU hw
  refine ⟨rfl, z_T_moved hO.2.2.2.2.2.2 hw (fun a ha hA => ?_), by rw [hU]; exact hW⟩
  rw [hU]
  exact hS.2.1 a ha hA
theorem z_recv (hO : z_Ok G Z d) {H : Heap} (hW : z_Wd G M H) {g c ci : Nat} {fs : List z_F} {C : String} {T : u_T} {N : Nat} (hdm : z_dm g c) (hob : z_ob g c = some (ci, fs)) (hC : vwCl[ci]? = some (C, T, N)) : ∃ cellB : Cell, H[z_ad G g c]? = some cellB ∧ cellB.vm.isStatics = false ∧ (z_s Z).vm.findClass C = some cellB.cls := by
  obtain ⟨cell, q1, q2, q3, -⟩ := (hW.2.2 g c hdm).1 ci fs hob
  obtain ⟨-, hfc, -⟩ := hO.2.2.2.2.2.2.2.2.1.1 ci _ hC
  exact ⟨cell, q1, by rw [q3]; rfl, by rw [q2]; exact hfc⟩
/-- a call of an instance method that returns -/
theorem z_callV {g c ci : Nat} {fs : List z_F} {C : String} {T : u_T} {N : Nat} (hC : z_Con G y cc' maxL ret fr lo (.ref (z_ad G g c) :: As) M (.inl v) M1)
    (hlink : Cond.methodLink (z_own d) idx y ∈ z_W) (hinst : Cond.instanceMethod y ∈ z_W) (hsel : Cond.selects C y y ∈ z_W) (hcode : Cond.code y cc' maxL ret ∈ z_W) (hini : Cond.initialized y.cls ∈ z_W) (hy : z_name y na)
    (hdm : z_dm g c) (hob : z_ob g c = some (ci, fs)) (hcl : vwCl[ci]? = some (C, T, N)) (hna : As.length = na) (hst : st = As.reverse ++ .ref (z_ad G g c) :: rest) (hfit : z_fit d fr lo maxL) (hk : k ≤ (z_R d).cells ∧ n ≤ (z_R d).slots) (hcat : (rest.map fun v => v.category).sum ≤ 8)
    (hd : decode (z_cc d) pc = .ok (.invokevirtual idx, 3)) (kk : z_J G Z d Q (pc + 3) ls (v.toList ++ rest) M1 k n) : z_J G Z d Q pc ls st M k n := fun hO H locs la hW hS hL => by
  subst hst
  have hts : ∀ w ∈ z_W, w.before (z_a Z) (z_s Z) = true := fun w hw => z_tw hO hw _
  intro T0 hT0 X
  rcases vx_runV (Ts := z_W) (own := z_own d) (C := C) (n := na) (bytes := cc') (maxL := maxL) (ret := ret) (index := idx) (g := F0 (z_m Z) pc la (As.reverse ++ .ref (z_ad G g c) :: rest)) (rest := rest) ⟨hO.1, hO.2.1, hO.2.2.1, hO.2.2.2.1, hts⟩ hC
      ⟨⟨rfl, rfl, hfit.1, hfit.2, z_ws1 hO hcode, List.mem_singleton_self _, hts _ hcode, hts _ hini, hy.1, z_nm hy, hts _ hlink⟩, hts _ hinst, hts _ hsel⟩
      ⟨z_blind, z_recv hO hW hdm hob hcl, z_PcU hO hW hS⟩ rfl hna hL.1 rfl (lv_room hcat) hd ⟨hk.1, hk.2⟩ T0 hT0 X with ⟨v', st₀, t, T', L, h0, X', hL', e1, e2, ⟨w, ho, hv, hWd, hF⟩, stp⟩ | ⟨q, st₀, t, T', L, E', ce, h0, X', hL', e1, e2, ⟨ho, hWd, hF⟩, hce, hcv, hcl', stp⟩
  · cases ho
    cases hv
    obtain ⟨k1, k2, k3⟩ := vx_keep (A1 := z_A G) h0 e1 hS (fun q _ h => h) (fun q h => h) hL' hF
    obtain ⟨t2, a1, b1⟩ := kk hO T'.heap (locs ++ L) la (by rw [e1]; exact hWd) k3 hL T' rfl X'
    exact ⟨t2, stp t2 a1, b1⟩
  · cases ho
/-- a call of an instance method that throws: the caller throws the same -/
theorem z_callVx {g c ci : Nat} {fs : List z_F} {C : String} {T : u_T} {N : Nat} {fr' lo' : Nat} {nL : Nat} {own : String} {cc : ByteArray} {ret' : Option FieldType} (htb : z_tb Z) (hC : z_Con G y cc' maxL ret fr lo (.ref (z_ad G g c) :: As) M (.inr E) M1)
    (hlink : Cond.methodLink own idx y ∈ z_W) (hinst : Cond.instanceMethod y ∈ z_W) (hsel : Cond.selects C y y ∈ z_W) (hcode : Cond.code y cc' maxL ret ∈ z_W) (hini : Cond.initialized y.cls ∈ z_W) (hy : z_name y na)
    (hdm : z_dm g c) (hob : z_ob g c = some (ci, fs)) (hcl : vwCl[ci]? = some (C, T, N)) (hna : As.length = na) (hst : st = As.reverse ++ .ref (z_ad G g c) :: rest) (hfit : z_fit (cc, nL, own, z_rm fr' lo' (.inr E), ret') fr lo maxL) (hcat : (rest.map fun v => v.category).sum ≤ 8)
    (hd : decode cc pc = .ok (.invokevirtual idx, 3)) : z_J G Z (cc, nL, own, z_rm fr' lo' (.inr E), ret') (z_Qm G Z (.inr E) M1) pc ls st M 0 0 := fun hO H locs la hW hS hL => by
  subst hst
  have hts : ∀ w ∈ z_W, w.before (z_a Z) (z_s Z) = true := fun w hw => z_tw hO hw _
  intro T0 hT0 X
  rcases vx_runV (Ts := z_W) (own := own) (C := C) (n := na) (bytes := cc') (maxL := maxL) (ret := ret) (index := idx) (g := F0 (z_m Z) pc la (As.reverse ++ .ref (z_ad G g c) :: rest)) (rest := rest) ⟨hO.1, hO.2.1, hO.2.2.1, hO.2.2.2.1, hts⟩ hC
      ⟨⟨rfl, rfl, hfit.1, hfit.2, z_ws1 hO hcode, List.mem_singleton_self _, hts _ hcode, hts _ hini, hy.1, z_nm hy, hts _ hlink⟩, hts _ hinst, hts _ hsel⟩
      ⟨z_blind, z_recv hO hW hdm hob hcl, z_PcU hO hW hS⟩ rfl hna hL.1 rfl (lv_room hcat) hd ⟨Nat.le_refl 1, Nat.le_refl 6⟩ T0 hT0 X with ⟨v', st₀, t, T', L, h0, X', hL', e1, e2, ⟨w, ho, hv, hWd, hF⟩, stp⟩ | ⟨q, st₀, t, T', L, E', ce, h0, X', hL', e1, e2, ⟨ho, hWd, hF⟩, hce, hcv, hcl', stp⟩
  · cases ho
  · cases ho
    obtain ⟨k1, k2, k3⟩ := vx_keep (A1 := z_A G) h0 e1 hS (fun q _ h => h) (fun q h => h) hL' hF
    obtain ⟨t2, a1, b1⟩ := vx_out (pc := pc) (ls := la) (rest := rest) (XC := z_Xc G (.inr E) M1) (Qc := z_Qc G (.inr E) M1) (mc := 1) (ms := 6) (free := z_A G) (fun x hx => absurd (htb x hx) id) hO.2.2.2.2.1 (by rw [e1]; exact hce) hcv hcl' (fun t' ht' _ => ⟨rfl, by rw [ht', e1]; exact hWd, k3.F ht'⟩) k3.2.2 (Nat.le_refl 1) (Nat.le_refl 6) T' rfl X'
    exact ⟨t2, stp.trans a1, b1⟩
end ZK
end
section
section ZK
variable {G : z_G} {Z : z_Z} {d : z_Md} {Q : State → Prop} {pc : Nat} {ls : List (Option Value)} {M M1 : z_M} {k n : Nat}
variable {y : MethodName} {cc' : ByteArray} {maxL fr lo idx na : Nat} {ret : Option FieldType} {As rest st : List Value} {v : Option Value} {E : String}
/-- a call of a static method that returns -/
theorem z_callS (hC : z_Con G y cc' maxL ret fr lo As M (.inl v) M1)
    (hlink : Cond.methodLink (z_own d) idx y ∈ z_W) (hstat : Cond.static y ∈ z_W) (hcode : Cond.code y cc' maxL ret ∈ z_W) (hini : Cond.initialized y.cls ∈ z_W) (hy : z_name y na)
    (hna : As.length = na) (hst : st = As.reverse ++ rest) (hfit : z_fit d fr lo maxL) (hk : k ≤ (z_R d).cells ∧ n ≤ (z_R d).slots) (hcat : (rest.map fun v => v.category).sum ≤ 8)
    (hd : decode (z_cc d) pc = .ok (.invokestatic idx, 3)) (kk : z_J G Z d Q (pc + 3) ls (v.toList ++ rest) M1 k n) : z_J G Z d Q pc ls st M k n := fun hO H locs la hW hS hL => by
  subst hst
  have hts : ∀ w ∈ z_W, w.before (z_a Z) (z_s Z) = true := fun w hw => z_tw hO hw _
  intro T0 hT0 X
  rcases vx_runS (Ts := z_W) (own := z_own d) (n := na) (bytes := cc') (maxL := maxL) (ret := ret) (index := idx) (g := F0 (z_m Z) pc la (As.reverse ++ rest)) (rest := rest) ⟨hO.1, hO.2.1, hO.2.2.1, hO.2.2.2.1, hts⟩ hC
      ⟨⟨rfl, rfl, hfit.1, hfit.2, z_ws1 hO hcode, List.mem_singleton_self _, hts _ hcode, hts _ hini, hy.1, z_nm hy, hts _ hlink⟩, hts _ hstat⟩
      ⟨z_blind, z_PcU hO hW hS⟩ rfl hna hL.1 rfl (lv_room hcat) hd ⟨hk.1, hk.2⟩ T0 hT0 X with ⟨v', st₀, t, T', L, h0, X', hL', e1, e2, ⟨w, ho, hv, hWd, hF⟩, stp⟩ | ⟨q, st₀, t, T', L, E', ce, h0, X', hL', e1, e2, ⟨ho, hWd, hF⟩, hce, hcv, hcl', stp⟩
  · cases ho
    cases hv
    obtain ⟨k1, k2, k3⟩ := vx_keep (A1 := z_A G) h0 e1 hS (fun q _ h => h) (fun q h => h) hL' hF
    obtain ⟨t2, a1, b1⟩ := kk hO T'.heap (locs ++ L) la (by rw [e1]; exact hWd) k3 hL T' rfl X'
    exact ⟨t2, stp t2 a1, b1⟩
  · cases ho
theorem z_callSx {fr' lo' : Nat} {nL : Nat} {own : String} {cc : ByteArray} {ret' : Option FieldType} (htb : z_tb Z) (hC : z_Con G y cc' maxL ret fr lo As M (.inr E) M1)
    (hlink : Cond.methodLink own idx y ∈ z_W) (hstat : Cond.static y ∈ z_W) (hcode : Cond.code y cc' maxL ret ∈ z_W) (hini : Cond.initialized y.cls ∈ z_W) (hy : z_name y na)
    (hna : As.length = na) (hst : st = As.reverse ++ rest) (hfit : z_fit (cc, nL, own, z_rm fr' lo' (.inr E), ret') fr lo maxL) (hcat : (rest.map fun v => v.category).sum ≤ 8)
    (hd : decode cc pc = .ok (.invokestatic idx, 3)) : z_J G Z (cc, nL, own, z_rm fr' lo' (.inr E), ret') (z_Qm G Z (.inr E) M1) pc ls st M 0 0 := fun hO H locs la hW hS hL => by
  subst hst
  have hts : ∀ w ∈ z_W, w.before (z_a Z) (z_s Z) = true := fun w hw => z_tw hO hw _
  intro T0 hT0 X
  rcases vx_runS (Ts := z_W) (own := own) (n := na) (bytes := cc') (maxL := maxL) (ret := ret) (index := idx) (g := F0 (z_m Z) pc la (As.reverse ++ rest)) (rest := rest) ⟨hO.1, hO.2.1, hO.2.2.1, hO.2.2.2.1, hts⟩ hC
      ⟨⟨rfl, rfl, hfit.1, hfit.2, z_ws1 hO hcode, List.mem_singleton_self _, hts _ hcode, hts _ hini, hy.1, z_nm hy, hts _ hlink⟩, hts _ hstat⟩
      ⟨z_blind, z_PcU hO hW hS⟩ rfl hna hL.1 rfl (lv_room hcat) hd ⟨Nat.le_refl 1, Nat.le_refl 6⟩ T0 hT0 X with ⟨v', st₀, t, T', L, h0, X', hL', e1, e2, ⟨w, ho, hv, hWd, hF⟩, stp⟩ | ⟨q, st₀, t, T', L, E', ce, h0, X', hL', e1, e2, ⟨ho, hWd, hF⟩, hce, hcv, hcl', stp⟩
  · cases ho
  · cases ho
    obtain ⟨k1, k2, k3⟩ := vx_keep (A1 := z_A G) h0 e1 hS (fun q _ h => h) (fun q h => h) hL' hF
    obtain ⟨t2, a1, b1⟩ := vx_out (pc := pc) (ls := la) (rest := rest) (XC := z_Xc G (.inr E) M1) (Qc := z_Qc G (.inr E) M1) (mc := 1) (ms := 6) (free := z_A G) (fun x hx => absurd (htb x hx) id) hO.2.2.2.2.1 (by rw [e1]; exact hce) hcv hcl' (fun t' ht' _ => ⟨rfl, by rw [ht', e1]; exact hWd, k3.F ht'⟩) k3.2.2 (Nat.le_refl 1) (Nat.le_refl 6) T' rfl X'
    exact ⟨t2, stp.trans a1, b1⟩
/-- a contract that returns, as the kit's contract without exceptions -/
theorem z_Met (hC : z_Con G y cc' maxL ret fr lo As M (.inl v) M1) : Met (z_l G) y [Cond.code y cc' maxL ret] (z_rm fr lo (.inl v)) (z_Pc G As M) (z_Qc G (.inl v) M1) 0 0 (z_A G) := by
  intro p e ha hc hk s m args below hf happ hP hK
  obtain ⟨n, o, h1, h2, h3, h4⟩ := hC p e ha hc hk s m args below hf happ hP hK
  refine ⟨n, o, h1, h2, h3, ?_⟩
  rcases h4 with h4 | ⟨q, -, E, ce, L, ⟨hx, -⟩, -⟩
  · exact h4
  · cases hx
/-- a call of a private static method of the nest's host -/
theorem z_callN {host : String} (hC : z_Con G y cc' maxL ret fr lo As M (.inl v) M1)
    (hlink : Cond.methodLinkNest (z_own d) idx y host ∈ z_W) (hstat : Cond.static y ∈ z_W) (hcode : Cond.code y cc' maxL ret ∈ z_W) (hini : Cond.initialized y.cls ∈ z_W) (hy : z_name y na)
    (hna : As.length = na) (hst : st = As.reverse ++ rest) (hfit : z_fit d fr lo maxL) (hk : k ≤ (z_R d).cells ∧ n ≤ (z_R d).slots) (hcat : (rest.map fun v => v.category).sum ≤ 8)
    (hd : decode (z_cc d) pc = .ok (.invokestatic idx, 3)) (kk : z_J G Z d Q (pc + 3) ls (v.toList ++ rest) M1 k n) : z_J G Z d Q pc ls st M k n := fun hO H locs la hW hS hL => by
  subst hst
  have hts : ∀ w ∈ z_W, w.before (z_a Z) (z_s Z) = true := fun w hw => z_tw hO hw _
  intro T0 hT0 X
  obtain ⟨v', st₀, t, T', L, h0, X', hL', e1, e2, ⟨w, ho, hv, hWd, hF⟩, stp⟩ := va_runSN (Ts := z_W) (own := z_own d) (host := host) (n := na) (bytes := cc') (maxL := maxL) (ret := ret) (index := idx) (g := F0 (z_m Z) pc la (As.reverse ++ rest)) (rest := rest) ⟨hO.1, hO.2.1, hO.2.2.1, hO.2.2.2.1, hts⟩ (z_Met hC)
      ⟨⟨⟨rfl, rfl, hfit.1, hfit.2, z_ws1 hO hcode, List.mem_singleton_self _⟩, hts _ hcode, hts _ hini, hy.1, z_nm hy, hts _ hlink⟩, hts _ hstat, trivial⟩
      ⟨z_blind, z_PcU hO hW hS⟩ rfl hna hL.1 rfl (lv_room hcat) hd ⟨hk.1, hk.2⟩ T0 hT0 X
  cases ho
  cases hv
  obtain ⟨k1, k2, k3⟩ := vx_keep (A1 := z_A G) h0 e1 hS (fun q _ h => h) (fun q h => h) hL' hF
  obtain ⟨t2, a1, b1⟩ := kk hO T'.heap (locs ++ L) la (by rw [e1]; exact hWd) k3 hL T' rfl X'
  exact ⟨t2, stp t2 a1, b1⟩
/-- the throw of a new exception with a text -/
theorem z_throw {fr' lo' : Nat} {nL : Nat} {own : String} {cc : ByteArray} {ret' : Option FieldType} {text : String} {ik is ic : Nat} (htb : z_tb Z) (hfit : Bundle.fit E = true)
    (hk : Cond.classLink own ik E ∈ z_W) (hini : Cond.initialized E ∈ z_W) (hstr : (own, is, text) ∈ z_S) (hat : ∀ w ∈ vx_atS own ic E ["java/lang/RuntimeException", "java/lang/Exception"], w ∈ z_W)
    (hgood : ∀ w ∈ Cond.classLink own ik E :: Cond.initialized E :: vx_atS own ic E ["java/lang/RuntimeException", "java/lang/Exception"], vx_ot w = true)
    (d0 : decode cc pc = .ok (.new ik, 3)) (d3 : decode cc (pc + 3) = .ok (.dup, 1)) (d4 : decode cc (pc + 4) = .ok (.ldc is, 2)) (d6 : decode cc (pc + 6) = .ok (.invokespecial ic, 3)) (d9 : decode cc (pc + 9) = .ok (.athrow, 1))
    (hRf : 5 < fr') (hRl : (rest.map fun v => v.category).sum + 82 ≤ lo') : z_J G Z (cc, nL, own, z_rm fr' lo' (.inr E), ret') (z_Qm G Z (.inr E) M) pc ls rest M 0 0 := fun hO H locs la hW hS hL => by
  have hts : ∀ w ∈ z_W, w.before (z_a Z) (z_s Z) = true := fun w hw => z_tw hO hw _
  obtain ⟨sa, hsa⟩ := hO.2.2.2.2.2.2.2.2.2.2.2.2.2.1 _ hstr
  refine vx_throwS (names := ["java/lang/RuntimeException", "java/lang/Exception"]) (text := text) (sa := sa) (A := z_A G) hO.1 hO.2.1 hO.2.2.2.2.2.2.1 hO.2.2.2.1 hfit (by decide +kernel) (hts _ hk) (hts _ hini) hsa (fun w hw => hts w (hat w hw)) hgood hO.2.2.2.2.2.2.2.2.2.1 hO.2.2.2.2.2.2.2.2.2.2.1 hS (by rw [hO.2.2.1]; exact hL.1)
    d0 d3 d4 d6 d9 (fun x hx => absurd (htb x hx) id) hRf hRl (Nat.le_refl 1) (Nat.le_refl 6) hO.2.2.2.2.1 (fun t ht hz hq => ⟨rfl, z_Wd_keep hW hz hq, ⟨Nat.le_trans hS.1 hz, fun q h1 h2 => by rw [hq q (Nat.lt_of_lt_of_le h1 hS.1)]; exact hS.2.1 q h1 h2⟩⟩) hS.2.2 (Nat.le_refl 1) (Nat.le_refl 6)
end ZK
end
