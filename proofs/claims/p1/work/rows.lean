section
-- ===== PART A: goes FIRST, ahead of the names: the tables' words, and 'selects' of the private methods out of them =====
/-- a private method of a class that the tables say can be made, by its rows of tables_1 -/
def lw_okq (q : MethodName × Nat) : Prop := (q.1.cls ≠ "java/lang/invoke/MethodHandle" ∧ q.1.cls ≠ "java/lang/invoke/VarHandle") ∧ Cond.instantiable q.1.cls q.2 ∈ tables_1 ∧ Cond.privateMethod q.1 ∈ tables_1 ∧ Cond.instanceMethod q.1 ∈ tables_1
theorem lw_p0 : lw_okq (⟨"SieveDesk$Tokens", "scan", "(I)V"⟩, 9) := ⟨⟨by decide +kernel, by decide +kernel⟩, List.mem_of_getElem? (i := 24) (by decide +kernel), List.mem_of_getElem? (i := 159) (by decide +kernel), List.mem_of_getElem? (i := 160) (by decide +kernel)⟩
theorem lw_p1 : lw_okq (⟨"SieveDesk$Tokens", "skipGap", "()V"⟩, 9) := ⟨⟨by decide +kernel, by decide +kernel⟩, List.mem_of_getElem? (i := 24) (by decide +kernel), List.mem_of_getElem? (i := 163) (by decide +kernel), List.mem_of_getElem? (i := 164) (by decide +kernel)⟩
theorem lw_p2 : lw_okq (⟨"SieveDesk$Tokens", "byteAt", "(I)I"⟩, 9) := ⟨⟨by decide +kernel, by decide +kernel⟩, List.mem_of_getElem? (i := 24) (by decide +kernel), List.mem_of_getElem? (i := 167) (by decide +kernel), List.mem_of_getElem? (i := 168) (by decide +kernel)⟩
theorem lw_p3 : lw_okq (⟨"SieveDesk$Tokens", "behindLine", "(I)I"⟩, 9) := ⟨⟨by decide +kernel, by decide +kernel⟩, List.mem_of_getElem? (i := 24) (by decide +kernel), List.mem_of_getElem? (i := 171) (by decide +kernel), List.mem_of_getElem? (i := 172) (by decide +kernel)⟩
theorem lw_p4 : lw_okq (⟨"SieveDesk$Tokens", "behindComment", "(I)I"⟩, 9) := ⟨⟨by decide +kernel, by decide +kernel⟩, List.mem_of_getElem? (i := 24) (by decide +kernel), List.mem_of_getElem? (i := 175) (by decide +kernel), List.mem_of_getElem? (i := 176) (by decide +kernel)⟩
theorem lw_p5 : lw_okq (⟨"SieveDesk$Tokens", "add", "(ILSieveDesk$Word;II)V"⟩, 9) := ⟨⟨by decide +kernel, by decide +kernel⟩, List.mem_of_getElem? (i := 24) (by decide +kernel), List.mem_of_getElem? (i := 180) (by decide +kernel), List.mem_of_getElem? (i := 181) (by decide +kernel)⟩
theorem lw_p6 : lw_okq (⟨"SieveDesk$Tokens", "scanToken", "()Z"⟩, 9) := ⟨⟨by decide +kernel, by decide +kernel⟩, List.mem_of_getElem? (i := 24) (by decide +kernel), List.mem_of_getElem? (i := 184) (by decide +kernel), List.mem_of_getElem? (i := 185) (by decide +kernel)⟩
theorem lw_p7 : lw_okq (⟨"SieveDesk$Tokens", "scanWord", "()Z"⟩, 9) := ⟨⟨by decide +kernel, by decide +kernel⟩, List.mem_of_getElem? (i := 24) (by decide +kernel), List.mem_of_getElem? (i := 194) (by decide +kernel), List.mem_of_getElem? (i := 195) (by decide +kernel)⟩
theorem lw_p8 : lw_okq (⟨"SieveDesk$Tokens", "wordEnd", "(I)I"⟩, 9) := ⟨⟨by decide +kernel, by decide +kernel⟩, List.mem_of_getElem? (i := 24) (by decide +kernel), List.mem_of_getElem? (i := 198) (by decide +kernel), List.mem_of_getElem? (i := 199) (by decide +kernel)⟩
theorem lw_p9 : lw_okq (⟨"SieveDesk$Tokens", "scanText", "(I)Z"⟩, 9) := ⟨⟨by decide +kernel, by decide +kernel⟩, List.mem_of_getElem? (i := 24) (by decide +kernel), List.mem_of_getElem? (i := 260) (by decide +kernel), List.mem_of_getElem? (i := 261) (by decide +kernel)⟩
theorem lw_p10 : lw_okq (⟨"SieveDesk$Tokens", "behindLineEnd", "(I)I"⟩, 9) := ⟨⟨by decide +kernel, by decide +kernel⟩, List.mem_of_getElem? (i := 24) (by decide +kernel), List.mem_of_getElem? (i := 264) (by decide +kernel), List.mem_of_getElem? (i := 265) (by decide +kernel)⟩
theorem lw_p11 : lw_okq (⟨"SieveDesk$Tokens", "scanTag", "()Z"⟩, 9) := ⟨⟨by decide +kernel, by decide +kernel⟩, List.mem_of_getElem? (i := 24) (by decide +kernel), List.mem_of_getElem? (i := 275) (by decide +kernel), List.mem_of_getElem? (i := 276) (by decide +kernel)⟩
theorem lw_p12 : lw_okq (⟨"SieveDesk$Tokens", "scanNumber", "()Z"⟩, 9) := ⟨⟨by decide +kernel, by decide +kernel⟩, List.mem_of_getElem? (i := 24) (by decide +kernel), List.mem_of_getElem? (i := 280) (by decide +kernel), List.mem_of_getElem? (i := 281) (by decide +kernel)⟩
theorem lw_p13 : lw_okq (⟨"SieveDesk$Tokens", "scanQuoted", "()Z"⟩, 9) := ⟨⟨by decide +kernel, by decide +kernel⟩, List.mem_of_getElem? (i := 24) (by decide +kernel), List.mem_of_getElem? (i := 294) (by decide +kernel), List.mem_of_getElem? (i := 295) (by decide +kernel)⟩
theorem lw_p14 : lw_okq (⟨"SieveDesk$Quoted", "empty", "()V"⟩, 2) := ⟨⟨by decide +kernel, by decide +kernel⟩, List.mem_of_getElem? (i := 32) (by decide +kernel), List.mem_of_getElem? (i := 298) (by decide +kernel), List.mem_of_getElem? (i := 299) (by decide +kernel)⟩
theorem lw_p15 : lw_okq (⟨"SieveDesk$Quoted", "says", "()I"⟩, 2) := ⟨⟨by decide +kernel, by decide +kernel⟩, List.mem_of_getElem? (i := 32) (by decide +kernel), List.mem_of_getElem? (i := 302) (by decide +kernel), List.mem_of_getElem? (i := 303) (by decide +kernel)⟩
def lw_privs_1 : List (MethodName × Nat) := [(⟨"SieveDesk$Tokens", "scan", "(I)V"⟩, 9), (⟨"SieveDesk$Tokens", "skipGap", "()V"⟩, 9), (⟨"SieveDesk$Tokens", "byteAt", "(I)I"⟩, 9), (⟨"SieveDesk$Tokens", "behindLine", "(I)I"⟩, 9), (⟨"SieveDesk$Tokens", "behindComment", "(I)I"⟩, 9), (⟨"SieveDesk$Tokens", "add", "(ILSieveDesk$Word;II)V"⟩, 9), (⟨"SieveDesk$Tokens", "scanToken", "()Z"⟩, 9), (⟨"SieveDesk$Tokens", "scanWord", "()Z"⟩, 9), (⟨"SieveDesk$Tokens", "wordEnd", "(I)I"⟩, 9), (⟨"SieveDesk$Tokens", "scanText", "(I)Z"⟩, 9), (⟨"SieveDesk$Tokens", "behindLineEnd", "(I)I"⟩, 9), (⟨"SieveDesk$Tokens", "scanTag", "()Z"⟩, 9), (⟨"SieveDesk$Tokens", "scanNumber", "()Z"⟩, 9), (⟨"SieveDesk$Tokens", "scanQuoted", "()Z"⟩, 9), (⟨"SieveDesk$Quoted", "empty", "()V"⟩, 2), (⟨"SieveDesk$Quoted", "says", "()I"⟩, 2)]
theorem lw_r1 : ∀ q ∈ lw_privs_1, lw_okq q := List.forall_mem_cons.mpr ⟨lw_p0, List.forall_mem_cons.mpr ⟨lw_p1, List.forall_mem_cons.mpr ⟨lw_p2, List.forall_mem_cons.mpr ⟨lw_p3, List.forall_mem_cons.mpr ⟨lw_p4, List.forall_mem_cons.mpr ⟨lw_p5, List.forall_mem_cons.mpr ⟨lw_p6, List.forall_mem_cons.mpr ⟨lw_p7, List.forall_mem_cons.mpr ⟨lw_p8, List.forall_mem_cons.mpr ⟨lw_p9, List.forall_mem_cons.mpr ⟨lw_p10, List.forall_mem_cons.mpr ⟨lw_p11, List.forall_mem_cons.mpr ⟨lw_p12, List.forall_mem_cons.mpr ⟨lw_p13, List.forall_mem_cons.mpr ⟨lw_p14, List.forall_mem_cons.mpr ⟨lw_p15, fun _ h => absurd h List.not_mem_nil⟩⟩⟩⟩⟩⟩⟩⟩⟩⟩⟩⟩⟩⟩⟩⟩
theorem lw_p16 : lw_okq (⟨"SieveDesk$Quoted", "isMailbox", "()Z"⟩, 2) := ⟨⟨by decide +kernel, by decide +kernel⟩, List.mem_of_getElem? (i := 32) (by decide +kernel), List.mem_of_getElem? (i := 306) (by decide +kernel), List.mem_of_getElem? (i := 307) (by decide +kernel)⟩
theorem lw_p17 : lw_okq (⟨"SieveDesk$Quoted", "isAddress", "()Z"⟩, 2) := ⟨⟨by decide +kernel, by decide +kernel⟩, List.mem_of_getElem? (i := 32) (by decide +kernel), List.mem_of_getElem? (i := 310) (by decide +kernel), List.mem_of_getElem? (i := 311) (by decide +kernel)⟩
theorem lw_p18 : lw_okq (⟨"SieveDesk$Quoted", "isDotted", "(IIILjava/lang/String;)Z"⟩, 2) := ⟨⟨by decide +kernel, by decide +kernel⟩, List.mem_of_getElem? (i := 32) (by decide +kernel), List.mem_of_getElem? (i := 315) (by decide +kernel), List.mem_of_getElem? (i := 316) (by decide +kernel)⟩
theorem lw_p19 : lw_okq (⟨"SieveDesk$Quoted", "add", "(I)Z"⟩, 2) := ⟨⟨by decide +kernel, by decide +kernel⟩, List.mem_of_getElem? (i := 32) (by decide +kernel), List.mem_of_getElem? (i := 384) (by decide +kernel), List.mem_of_getElem? (i := 385) (by decide +kernel)⟩
theorem lw_p20 : lw_okq (⟨"SieveDesk$Grammar", "reads", "()Z"⟩, 14) := ⟨⟨by decide +kernel, by decide +kernel⟩, List.mem_of_getElem? (i := 80) (by decide +kernel), List.mem_of_getElem? (i := 390) (by decide +kernel), List.mem_of_getElem? (i := 391) (by decide +kernel)⟩
theorem lw_p21 : lw_okq (⟨"SieveDesk$Grammar", "advance", "()V"⟩, 14) := ⟨⟨by decide +kernel, by decide +kernel⟩, List.mem_of_getElem? (i := 80) (by decide +kernel), List.mem_of_getElem? (i := 394) (by decide +kernel), List.mem_of_getElem? (i := 395) (by decide +kernel)⟩
theorem lw_p22 : lw_okq (⟨"SieveDesk$Grammar", "expect", "(Ljava/lang/String;)V"⟩, 14) := ⟨⟨by decide +kernel, by decide +kernel⟩, List.mem_of_getElem? (i := 80) (by decide +kernel), List.mem_of_getElem? (i := 399) (by decide +kernel), List.mem_of_getElem? (i := 400) (by decide +kernel)⟩
theorem lw_p23 : lw_okq (⟨"SieveDesk$Grammar", "take", "(C)Z"⟩, 14) := ⟨⟨by decide +kernel, by decide +kernel⟩, List.mem_of_getElem? (i := 80) (by decide +kernel), List.mem_of_getElem? (i := 405) (by decide +kernel), List.mem_of_getElem? (i := 406) (by decide +kernel)⟩
theorem lw_p24 : lw_okq (⟨"SieveDesk$Grammar", "follow", "(LSieveDesk$Word;)Z"⟩, 14) := ⟨⟨by decide +kernel, by decide +kernel⟩, List.mem_of_getElem? (i := 80) (by decide +kernel), List.mem_of_getElem? (i := 411) (by decide +kernel), List.mem_of_getElem? (i := 412) (by decide +kernel)⟩
theorem lw_p25 : lw_okq (⟨"SieveDesk$Grammar", "takeCommands", "()Z"⟩, 14) := ⟨⟨by decide +kernel, by decide +kernel⟩, List.mem_of_getElem? (i := 80) (by decide +kernel), List.mem_of_getElem? (i := 415) (by decide +kernel), List.mem_of_getElem? (i := 416) (by decide +kernel)⟩
theorem lw_p26 : lw_okq (⟨"SieveDesk$Grammar", "begin", "()Z"⟩, 14) := ⟨⟨by decide +kernel, by decide +kernel⟩, List.mem_of_getElem? (i := 80) (by decide +kernel), List.mem_of_getElem? (i := 422) (by decide +kernel), List.mem_of_getElem? (i := 423) (by decide +kernel)⟩
theorem lw_p27 : lw_okq (⟨"SieveDesk$Grammar", "lacks", "(I)Z"⟩, 14) := ⟨⟨by decide +kernel, by decide +kernel⟩, List.mem_of_getElem? (i := 80) (by decide +kernel), List.mem_of_getElem? (i := 426) (by decide +kernel), List.mem_of_getElem? (i := 427) (by decide +kernel)⟩
theorem lw_p28 : lw_okq (⟨"SieveDesk$Grammar", "takeTest", "()Z"⟩, 14) := ⟨⟨by decide +kernel, by decide +kernel⟩, List.mem_of_getElem? (i := 80) (by decide +kernel), List.mem_of_getElem? (i := 430) (by decide +kernel), List.mem_of_getElem? (i := 431) (by decide +kernel)⟩
theorem lw_p29 : lw_okq (⟨"SieveDesk$Grammar", "takeMoreTests", "()Z"⟩, 14) := ⟨⟨by decide +kernel, by decide +kernel⟩, List.mem_of_getElem? (i := 80) (by decide +kernel), List.mem_of_getElem? (i := 435) (by decide +kernel), List.mem_of_getElem? (i := 436) (by decide +kernel)⟩
theorem lw_p30 : lw_okq (⟨"SieveDesk$Grammar", "takeTags", "()Z"⟩, 14) := ⟨⟨by decide +kernel, by decide +kernel⟩, List.mem_of_getElem? (i := 80) (by decide +kernel), List.mem_of_getElem? (i := 444) (by decide +kernel), List.mem_of_getElem? (i := 445) (by decide +kernel)⟩
theorem lw_p31 : lw_okq (⟨"SieveDesk$Grammar", "takeKind", "(I)Z"⟩, 14) := ⟨⟨by decide +kernel, by decide +kernel⟩, List.mem_of_getElem? (i := 80) (by decide +kernel), List.mem_of_getElem? (i := 453) (by decide +kernel), List.mem_of_getElem? (i := 454) (by decide +kernel)⟩
def lw_privs_2 : List (MethodName × Nat) := [(⟨"SieveDesk$Quoted", "isMailbox", "()Z"⟩, 2), (⟨"SieveDesk$Quoted", "isAddress", "()Z"⟩, 2), (⟨"SieveDesk$Quoted", "isDotted", "(IIILjava/lang/String;)Z"⟩, 2), (⟨"SieveDesk$Quoted", "add", "(I)Z"⟩, 2), (⟨"SieveDesk$Grammar", "reads", "()Z"⟩, 14), (⟨"SieveDesk$Grammar", "advance", "()V"⟩, 14), (⟨"SieveDesk$Grammar", "expect", "(Ljava/lang/String;)V"⟩, 14), (⟨"SieveDesk$Grammar", "take", "(C)Z"⟩, 14), (⟨"SieveDesk$Grammar", "follow", "(LSieveDesk$Word;)Z"⟩, 14), (⟨"SieveDesk$Grammar", "takeCommands", "()Z"⟩, 14), (⟨"SieveDesk$Grammar", "begin", "()Z"⟩, 14), (⟨"SieveDesk$Grammar", "lacks", "(I)Z"⟩, 14), (⟨"SieveDesk$Grammar", "takeTest", "()Z"⟩, 14), (⟨"SieveDesk$Grammar", "takeMoreTests", "()Z"⟩, 14), (⟨"SieveDesk$Grammar", "takeTags", "()Z"⟩, 14), (⟨"SieveDesk$Grammar", "takeKind", "(I)Z"⟩, 14)]
theorem lw_r2 : ∀ q ∈ lw_privs_2, lw_okq q := List.forall_mem_cons.mpr ⟨lw_p16, List.forall_mem_cons.mpr ⟨lw_p17, List.forall_mem_cons.mpr ⟨lw_p18, List.forall_mem_cons.mpr ⟨lw_p19, List.forall_mem_cons.mpr ⟨lw_p20, List.forall_mem_cons.mpr ⟨lw_p21, List.forall_mem_cons.mpr ⟨lw_p22, List.forall_mem_cons.mpr ⟨lw_p23, List.forall_mem_cons.mpr ⟨lw_p24, List.forall_mem_cons.mpr ⟨lw_p25, List.forall_mem_cons.mpr ⟨lw_p26, List.forall_mem_cons.mpr ⟨lw_p27, List.forall_mem_cons.mpr ⟨lw_p28, List.forall_mem_cons.mpr ⟨lw_p29, List.forall_mem_cons.mpr ⟨lw_p30, List.forall_mem_cons.mpr ⟨lw_p31, fun _ h => absurd h List.not_mem_nil⟩⟩⟩⟩⟩⟩⟩⟩⟩⟩⟩⟩⟩⟩⟩⟩
theorem lw_p32 : lw_okq (⟨"SieveDesk$Grammar", "takeString", "(I)Z"⟩, 14) := ⟨⟨by decide +kernel, by decide +kernel⟩, List.mem_of_getElem? (i := 80) (by decide +kernel), List.mem_of_getElem? (i := 457) (by decide +kernel), List.mem_of_getElem? (i := 458) (by decide +kernel)⟩
theorem lw_p33 : lw_okq (⟨"SieveDesk$Grammar", "takeStrings", "(I)Z"⟩, 14) := ⟨⟨by decide +kernel, by decide +kernel⟩, List.mem_of_getElem? (i := 80) (by decide +kernel), List.mem_of_getElem? (i := 461) (by decide +kernel), List.mem_of_getElem? (i := 462) (by decide +kernel)⟩
theorem lw_p34 : lw_okq (⟨"SieveDesk$Grammar", "takeSign", "(C)Z"⟩, 14) := ⟨⟨by decide +kernel, by decide +kernel⟩, List.mem_of_getElem? (i := 80) (by decide +kernel), List.mem_of_getElem? (i := 465) (by decide +kernel), List.mem_of_getElem? (i := 466) (by decide +kernel)⟩
theorem lw_p35 : lw_okq (⟨"SieveDesk$Grammar", "standsAt", "()I"⟩, 14) := ⟨⟨by decide +kernel, by decide +kernel⟩, List.mem_of_getElem? (i := 80) (by decide +kernel), List.mem_of_getElem? (i := 469) (by decide +kernel), List.mem_of_getElem? (i := 470) (by decide +kernel)⟩
theorem lw_p36 : lw_okq (⟨"SieveDesk", "lineOf", "(I)I"⟩, 5) := ⟨⟨by decide +kernel, by decide +kernel⟩, List.mem_of_getElem? (i := 16) (by decide +kernel), List.mem_of_getElem? (i := 473) (by decide +kernel), List.mem_of_getElem? (i := 474) (by decide +kernel)⟩
theorem lw_p37 : lw_okq (⟨"SieveDeskModel", "next", "()V"⟩, 19) := ⟨⟨by decide +kernel, by decide +kernel⟩, List.mem_of_getElem? (i := 485) (by decide +kernel), List.mem_of_getElem? (i := 622) (by decide +kernel), List.mem_of_getElem? (i := 623) (by decide +kernel)⟩
theorem lw_p38 : lw_okq (⟨"SieveDeskModel", "skip", "()Z"⟩, 19) := ⟨⟨by decide +kernel, by decide +kernel⟩, List.mem_of_getElem? (i := 485) (by decide +kernel), List.mem_of_getElem? (i := 626) (by decide +kernel), List.mem_of_getElem? (i := 627) (by decide +kernel)⟩
theorem lw_p39 : lw_okq (⟨"SieveDeskModel", "peek", "(I)I"⟩, 19) := ⟨⟨by decide +kernel, by decide +kernel⟩, List.mem_of_getElem? (i := 485) (by decide +kernel), List.mem_of_getElem? (i := 630) (by decide +kernel), List.mem_of_getElem? (i := 631) (by decide +kernel)⟩
theorem lw_p40 : lw_okq (⟨"SieveDeskModel", "token", "()I"⟩, 19) := ⟨⟨by decide +kernel, by decide +kernel⟩, List.mem_of_getElem? (i := 485) (by decide +kernel), List.mem_of_getElem? (i := 634) (by decide +kernel), List.mem_of_getElem? (i := 635) (by decide +kernel)⟩
theorem lw_p41 : lw_okq (⟨"SieveDeskModel", "begin", "()V"⟩, 19) := ⟨⟨by decide +kernel, by decide +kernel⟩, List.mem_of_getElem? (i := 485) (by decide +kernel), List.mem_of_getElem? (i := 638) (by decide +kernel), List.mem_of_getElem? (i := 639) (by decide +kernel)⟩
theorem lw_p42 : lw_okq (⟨"SieveDeskModel", "wordOf", "()V"⟩, 19) := ⟨⟨by decide +kernel, by decide +kernel⟩, List.mem_of_getElem? (i := 485) (by decide +kernel), List.mem_of_getElem? (i := 645) (by decide +kernel), List.mem_of_getElem? (i := 646) (by decide +kernel)⟩
theorem lw_p43 : lw_okq (⟨"SieveDeskModel", "add", "(I)V"⟩, 19) := ⟨⟨by decide +kernel, by decide +kernel⟩, List.mem_of_getElem? (i := 485) (by decide +kernel), List.mem_of_getElem? (i := 655) (by decide +kernel), List.mem_of_getElem? (i := 656) (by decide +kernel)⟩
theorem lw_p44 : lw_okq (⟨"SieveDeskModel", "like", "(I)Z"⟩, 19) := ⟨⟨by decide +kernel, by decide +kernel⟩, List.mem_of_getElem? (i := 485) (by decide +kernel), List.mem_of_getElem? (i := 662) (by decide +kernel), List.mem_of_getElem? (i := 663) (by decide +kernel)⟩
theorem lw_p45 : lw_okq (⟨"SieveDeskModel", "which", "(II)I"⟩, 19) := ⟨⟨by decide +kernel, by decide +kernel⟩, List.mem_of_getElem? (i := 485) (by decide +kernel), List.mem_of_getElem? (i := 666) (by decide +kernel), List.mem_of_getElem? (i := 667) (by decide +kernel)⟩
theorem lw_p46 : lw_okq (⟨"SieveDeskModel", "lines", "()I"⟩, 19) := ⟨⟨by decide +kernel, by decide +kernel⟩, List.mem_of_getElem? (i := 485) (by decide +kernel), List.mem_of_getElem? (i := 670) (by decide +kernel), List.mem_of_getElem? (i := 671) (by decide +kernel)⟩
theorem lw_p47 : lw_okq (⟨"SieveDeskModel", "endAt", "(I)I"⟩, 19) := ⟨⟨by decide +kernel, by decide +kernel⟩, List.mem_of_getElem? (i := 485) (by decide +kernel), List.mem_of_getElem? (i := 674) (by decide +kernel), List.mem_of_getElem? (i := 675) (by decide +kernel)⟩
def lw_privs_3 : List (MethodName × Nat) := [(⟨"SieveDesk$Grammar", "takeString", "(I)Z"⟩, 14), (⟨"SieveDesk$Grammar", "takeStrings", "(I)Z"⟩, 14), (⟨"SieveDesk$Grammar", "takeSign", "(C)Z"⟩, 14), (⟨"SieveDesk$Grammar", "standsAt", "()I"⟩, 14), (⟨"SieveDesk", "lineOf", "(I)I"⟩, 5), (⟨"SieveDeskModel", "next", "()V"⟩, 19), (⟨"SieveDeskModel", "skip", "()Z"⟩, 19), (⟨"SieveDeskModel", "peek", "(I)I"⟩, 19), (⟨"SieveDeskModel", "token", "()I"⟩, 19), (⟨"SieveDeskModel", "begin", "()V"⟩, 19), (⟨"SieveDeskModel", "wordOf", "()V"⟩, 19), (⟨"SieveDeskModel", "add", "(I)V"⟩, 19), (⟨"SieveDeskModel", "like", "(I)Z"⟩, 19), (⟨"SieveDeskModel", "which", "(II)I"⟩, 19), (⟨"SieveDeskModel", "lines", "()I"⟩, 19), (⟨"SieveDeskModel", "endAt", "(I)I"⟩, 19)]
theorem lw_r3 : ∀ q ∈ lw_privs_3, lw_okq q := List.forall_mem_cons.mpr ⟨lw_p32, List.forall_mem_cons.mpr ⟨lw_p33, List.forall_mem_cons.mpr ⟨lw_p34, List.forall_mem_cons.mpr ⟨lw_p35, List.forall_mem_cons.mpr ⟨lw_p36, List.forall_mem_cons.mpr ⟨lw_p37, List.forall_mem_cons.mpr ⟨lw_p38, List.forall_mem_cons.mpr ⟨lw_p39, List.forall_mem_cons.mpr ⟨lw_p40, List.forall_mem_cons.mpr ⟨lw_p41, List.forall_mem_cons.mpr ⟨lw_p42, List.forall_mem_cons.mpr ⟨lw_p43, List.forall_mem_cons.mpr ⟨lw_p44, List.forall_mem_cons.mpr ⟨lw_p45, List.forall_mem_cons.mpr ⟨lw_p46, List.forall_mem_cons.mpr ⟨lw_p47, fun _ h => absurd h List.not_mem_nil⟩⟩⟩⟩⟩⟩⟩⟩⟩⟩⟩⟩⟩⟩⟩⟩
theorem lw_p48 : lw_okq (⟨"SieveDeskModel", "digits", "()I"⟩, 19) := ⟨⟨by decide +kernel, by decide +kernel⟩, List.mem_of_getElem? (i := 485) (by decide +kernel), List.mem_of_getElem? (i := 678) (by decide +kernel), List.mem_of_getElem? (i := 679) (by decide +kernel)⟩
theorem lw_p49 : lw_okq (⟨"SieveDeskModel", "quoted", "()I"⟩, 19) := ⟨⟨by decide +kernel, by decide +kernel⟩, List.mem_of_getElem? (i := 485) (by decide +kernel), List.mem_of_getElem? (i := 687) (by decide +kernel), List.mem_of_getElem? (i := 688) (by decide +kernel)⟩
theorem lw_p50 : lw_okq (⟨"SieveDeskModel", "fail", "()V"⟩, 19) := ⟨⟨by decide +kernel, by decide +kernel⟩, List.mem_of_getElem? (i := 485) (by decide +kernel), List.mem_of_getElem? (i := 691) (by decide +kernel), List.mem_of_getElem? (i := 692) (by decide +kernel)⟩
theorem lw_p51 : lw_okq (⟨"SieveDeskModel", "isWord", "(I)Z"⟩, 19) := ⟨⟨by decide +kernel, by decide +kernel⟩, List.mem_of_getElem? (i := 485) (by decide +kernel), List.mem_of_getElem? (i := 695) (by decide +kernel), List.mem_of_getElem? (i := 696) (by decide +kernel)⟩
theorem lw_p52 : lw_okq (⟨"SieveDeskModel", "is", "(I)Z"⟩, 19) := ⟨⟨by decide +kernel, by decide +kernel⟩, List.mem_of_getElem? (i := 485) (by decide +kernel), List.mem_of_getElem? (i := 699) (by decide +kernel), List.mem_of_getElem? (i := 700) (by decide +kernel)⟩
theorem lw_p53 : lw_okq (⟨"SieveDeskModel", "list", "(Z)V"⟩, 19) := ⟨⟨by decide +kernel, by decide +kernel⟩, List.mem_of_getElem? (i := 485) (by decide +kernel), List.mem_of_getElem? (i := 703) (by decide +kernel), List.mem_of_getElem? (i := 704) (by decide +kernel)⟩
theorem lw_p54 : lw_okq (⟨"SieveDeskModel", "isSign", "(I)Z"⟩, 19) := ⟨⟨by decide +kernel, by decide +kernel⟩, List.mem_of_getElem? (i := 485) (by decide +kernel), List.mem_of_getElem? (i := 707) (by decide +kernel), List.mem_of_getElem? (i := 708) (by decide +kernel)⟩
theorem lw_p55 : lw_okq (⟨"SieveDeskModel", "string", "()V"⟩, 19) := ⟨⟨by decide +kernel, by decide +kernel⟩, List.mem_of_getElem? (i := 485) (by decide +kernel), List.mem_of_getElem? (i := 711) (by decide +kernel), List.mem_of_getElem? (i := 712) (by decide +kernel)⟩
theorem lw_p56 : lw_okq (⟨"SieveDeskModel", "require", "()V"⟩, 19) := ⟨⟨by decide +kernel, by decide +kernel⟩, List.mem_of_getElem? (i := 485) (by decide +kernel), List.mem_of_getElem? (i := 715) (by decide +kernel), List.mem_of_getElem? (i := 716) (by decide +kernel)⟩
theorem lw_p57 : lw_okq (⟨"SieveDeskModel", "take", "(I)V"⟩, 19) := ⟨⟨by decide +kernel, by decide +kernel⟩, List.mem_of_getElem? (i := 485) (by decide +kernel), List.mem_of_getElem? (i := 719) (by decide +kernel), List.mem_of_getElem? (i := 720) (by decide +kernel)⟩
theorem lw_p58 : lw_okq (⟨"SieveDeskModel", "push", "(I)V"⟩, 19) := ⟨⟨by decide +kernel, by decide +kernel⟩, List.mem_of_getElem? (i := 485) (by decide +kernel), List.mem_of_getElem? (i := 723) (by decide +kernel), List.mem_of_getElem? (i := 724) (by decide +kernel)⟩
theorem lw_p59 : lw_okq (⟨"SieveDeskModel", "step", "(I)V"⟩, 19) := ⟨⟨by decide +kernel, by decide +kernel⟩, List.mem_of_getElem? (i := 485) (by decide +kernel), List.mem_of_getElem? (i := 727) (by decide +kernel), List.mem_of_getElem? (i := 728) (by decide +kernel)⟩
theorem lw_p60 : lw_okq (⟨"SieveDeskModel", "command", "()V"⟩, 19) := ⟨⟨by decide +kernel, by decide +kernel⟩, List.mem_of_getElem? (i := 485) (by decide +kernel), List.mem_of_getElem? (i := 731) (by decide +kernel), List.mem_of_getElem? (i := 732) (by decide +kernel)⟩
theorem lw_p61 : lw_okq (⟨"SieveDeskModel", "counting", "(I)V"⟩, 19) := ⟨⟨by decide +kernel, by decide +kernel⟩, List.mem_of_getElem? (i := 485) (by decide +kernel), List.mem_of_getElem? (i := 735) (by decide +kernel), List.mem_of_getElem? (i := 736) (by decide +kernel)⟩
theorem lw_p62 : lw_okq (⟨"SieveDeskModel", "needs", "(I)V"⟩, 19) := ⟨⟨by decide +kernel, by decide +kernel⟩, List.mem_of_getElem? (i := 485) (by decide +kernel), List.mem_of_getElem? (i := 739) (by decide +kernel), List.mem_of_getElem? (i := 740) (by decide +kernel)⟩
theorem lw_p63 : lw_okq (⟨"SieveDeskModel", "tags", "(I)V"⟩, 19) := ⟨⟨by decide +kernel, by decide +kernel⟩, List.mem_of_getElem? (i := 485) (by decide +kernel), List.mem_of_getElem? (i := 743) (by decide +kernel), List.mem_of_getElem? (i := 744) (by decide +kernel)⟩
def lw_privs_4 : List (MethodName × Nat) := [(⟨"SieveDeskModel", "digits", "()I"⟩, 19), (⟨"SieveDeskModel", "quoted", "()I"⟩, 19), (⟨"SieveDeskModel", "fail", "()V"⟩, 19), (⟨"SieveDeskModel", "isWord", "(I)Z"⟩, 19), (⟨"SieveDeskModel", "is", "(I)Z"⟩, 19), (⟨"SieveDeskModel", "list", "(Z)V"⟩, 19), (⟨"SieveDeskModel", "isSign", "(I)Z"⟩, 19), (⟨"SieveDeskModel", "string", "()V"⟩, 19), (⟨"SieveDeskModel", "require", "()V"⟩, 19), (⟨"SieveDeskModel", "take", "(I)V"⟩, 19), (⟨"SieveDeskModel", "push", "(I)V"⟩, 19), (⟨"SieveDeskModel", "step", "(I)V"⟩, 19), (⟨"SieveDeskModel", "command", "()V"⟩, 19), (⟨"SieveDeskModel", "counting", "(I)V"⟩, 19), (⟨"SieveDeskModel", "needs", "(I)V"⟩, 19), (⟨"SieveDeskModel", "tags", "(I)V"⟩, 19)]
theorem lw_r4 : ∀ q ∈ lw_privs_4, lw_okq q := List.forall_mem_cons.mpr ⟨lw_p48, List.forall_mem_cons.mpr ⟨lw_p49, List.forall_mem_cons.mpr ⟨lw_p50, List.forall_mem_cons.mpr ⟨lw_p51, List.forall_mem_cons.mpr ⟨lw_p52, List.forall_mem_cons.mpr ⟨lw_p53, List.forall_mem_cons.mpr ⟨lw_p54, List.forall_mem_cons.mpr ⟨lw_p55, List.forall_mem_cons.mpr ⟨lw_p56, List.forall_mem_cons.mpr ⟨lw_p57, List.forall_mem_cons.mpr ⟨lw_p58, List.forall_mem_cons.mpr ⟨lw_p59, List.forall_mem_cons.mpr ⟨lw_p60, List.forall_mem_cons.mpr ⟨lw_p61, List.forall_mem_cons.mpr ⟨lw_p62, List.forall_mem_cons.mpr ⟨lw_p63, fun _ h => absurd h List.not_mem_nil⟩⟩⟩⟩⟩⟩⟩⟩⟩⟩⟩⟩⟩⟩⟩⟩
theorem lw_p64 : lw_okq (⟨"SieveDeskModel", "file", "()V"⟩, 19) := ⟨⟨by decide +kernel, by decide +kernel⟩, List.mem_of_getElem? (i := 485) (by decide +kernel), List.mem_of_getElem? (i := 747) (by decide +kernel), List.mem_of_getElem? (i := 748) (by decide +kernel)⟩
theorem lw_p65 : lw_okq (⟨"SieveDeskModel", "redirect", "()V"⟩, 19) := ⟨⟨by decide +kernel, by decide +kernel⟩, List.mem_of_getElem? (i := 485) (by decide +kernel), List.mem_of_getElem? (i := 751) (by decide +kernel), List.mem_of_getElem? (i := 752) (by decide +kernel)⟩
theorem lw_p66 : lw_okq (⟨"SieveDeskModel", "isDotted", "(IIIZ)Z"⟩, 19) := ⟨⟨by decide +kernel, by decide +kernel⟩, List.mem_of_getElem? (i := 485) (by decide +kernel), List.mem_of_getElem? (i := 755) (by decide +kernel), List.mem_of_getElem? (i := 756) (by decide +kernel)⟩
theorem lw_p67 : lw_okq (⟨"SieveDeskModel", "taken", "()V"⟩, 19) := ⟨⟨by decide +kernel, by decide +kernel⟩, List.mem_of_getElem? (i := 485) (by decide +kernel), List.mem_of_getElem? (i := 762) (by decide +kernel), List.mem_of_getElem? (i := 763) (by decide +kernel)⟩
theorem lw_p68 : lw_okq (⟨"SieveDeskModel", "absence", "()V"⟩, 19) := ⟨⟨by decide +kernel, by decide +kernel⟩, List.mem_of_getElem? (i := 485) (by decide +kernel), List.mem_of_getElem? (i := 766) (by decide +kernel), List.mem_of_getElem? (i := 767) (by decide +kernel)⟩
theorem lw_p69 : lw_okq (⟨"SieveDeskModel", "number", "()V"⟩, 19) := ⟨⟨by decide +kernel, by decide +kernel⟩, List.mem_of_getElem? (i := 485) (by decide +kernel), List.mem_of_getElem? (i := 770) (by decide +kernel), List.mem_of_getElem? (i := 771) (by decide +kernel)⟩
theorem lw_p70 : lw_okq (⟨"SieveDeskModel", "test", "()V"⟩, 19) := ⟨⟨by decide +kernel, by decide +kernel⟩, List.mem_of_getElem? (i := 485) (by decide +kernel), List.mem_of_getElem? (i := 774) (by decide +kernel), List.mem_of_getElem? (i := 775) (by decide +kernel)⟩
theorem lw_p71 : lw_okq (⟨"SieveDeskModel", "how", "(Z)V"⟩, 19) := ⟨⟨by decide +kernel, by decide +kernel⟩, List.mem_of_getElem? (i := 485) (by decide +kernel), List.mem_of_getElem? (i := 778) (by decide +kernel), List.mem_of_getElem? (i := 779) (by decide +kernel)⟩
theorem lw_p72 : lw_okq (⟨"SieveDeskModel", "one", "(II)V"⟩, 19) := ⟨⟨by decide +kernel, by decide +kernel⟩, List.mem_of_getElem? (i := 485) (by decide +kernel), List.mem_of_getElem? (i := 782) (by decide +kernel), List.mem_of_getElem? (i := 783) (by decide +kernel)⟩
def lw_privs_5 : List (MethodName × Nat) := [(⟨"SieveDeskModel", "file", "()V"⟩, 19), (⟨"SieveDeskModel", "redirect", "()V"⟩, 19), (⟨"SieveDeskModel", "isDotted", "(IIIZ)Z"⟩, 19), (⟨"SieveDeskModel", "taken", "()V"⟩, 19), (⟨"SieveDeskModel", "absence", "()V"⟩, 19), (⟨"SieveDeskModel", "number", "()V"⟩, 19), (⟨"SieveDeskModel", "test", "()V"⟩, 19), (⟨"SieveDeskModel", "how", "(Z)V"⟩, 19), (⟨"SieveDeskModel", "one", "(II)V"⟩, 19)]
theorem lw_r5 : ∀ q ∈ lw_privs_5, lw_okq q := List.forall_mem_cons.mpr ⟨lw_p64, List.forall_mem_cons.mpr ⟨lw_p65, List.forall_mem_cons.mpr ⟨lw_p66, List.forall_mem_cons.mpr ⟨lw_p67, List.forall_mem_cons.mpr ⟨lw_p68, List.forall_mem_cons.mpr ⟨lw_p69, List.forall_mem_cons.mpr ⟨lw_p70, List.forall_mem_cons.mpr ⟨lw_p71, List.forall_mem_cons.mpr ⟨lw_p72, fun _ h => absurd h List.not_mem_nil⟩⟩⟩⟩⟩⟩⟩⟩⟩
def lw_privs : List (MethodName × Nat) := lw_privs_1 ++ (lw_privs_2 ++ (lw_privs_3 ++ (lw_privs_4 ++ (lw_privs_5))))
def lw_tbl : List Cond := k2_sels lw_privs ++ tables_1
theorem lw_privs_ok : ∀ q ∈ lw_privs, lw_okq q := by
  show ∀ q ∈ lw_privs_1 ++ (lw_privs_2 ++ (lw_privs_3 ++ (lw_privs_4 ++ (lw_privs_5)))), lw_okq q
  exact List.forall_mem_append.mpr ⟨lw_r1, List.forall_mem_append.mpr ⟨lw_r2, List.forall_mem_append.mpr ⟨lw_r3, List.forall_mem_append.mpr ⟨lw_r4, lw_r5⟩⟩⟩⟩
end
section
/-! the tables' words that last (TT), those that last with the nest links (NT) -/
def TT : List Cond := lw_tbl.filter goodWord
def NT : List Cond := lw_tbl.filter (fun w => w.onTables && w.keepsH)
theorem mem_tt {i : Nat} {w : Cond} (h : lw_tbl[i]? = some w) (hg : goodWord w = true) : w ∈ TT := List.mem_filter.mpr ⟨List.mem_of_getElem? h, hg⟩
theorem mem_nt {i : Nat} {w : Cond} (h : lw_tbl[i]? = some w) (hg : (w.onTables && w.keepsH) = true) : w ∈ NT := List.mem_filter.mpr ⟨List.mem_of_getElem? h, hg⟩
theorem tt_tbl {w : Cond} (h : w ∈ TT) : w ∈ lw_tbl := (List.mem_filter.mp h).1
theorem tt_good {w : Cond} (h : w ∈ TT) : (w.onTables && w.keeps) = true ∨ ∃ ty, w = .arrayClass ty := good_of_word (List.mem_filter.mp h).2
theorem good_tt {ws : List Cond} (h : ∀ w ∈ ws, w ∈ TT) : GoodIn TT ws := fun w hw => ⟨h w hw, tt_good (h w hw)⟩
theorem g_C {c : Cond} (h : c ∈ TT) : GoodIn TT (c :: TT) := good_tt (fun w hw => (List.mem_cons.mp hw).elim (fun e => e ▸ h) id)
theorem g_V {own C : String} {idx : Nat} {y : MethodName} {c : Cond} (h1 : Cond.methodLink own idx y ∈ TT) (h2 : Cond.instanceMethod y ∈ TT) (h3 : Cond.selects C y y ∈ TT) (h4 : Cond.initialized C ∈ TT) (h5 : c ∈ TT) : GoodIn TT (wsV own idx C y (c :: TT)) := good_tt (fun w hw => by
  rcases List.mem_append.mp hw with hw | hw
  · rcases List.mem_cons.mp hw with rfl | hw
    · exact h1
    · rcases List.mem_cons.mp hw with rfl | hw
      · exact h2
      · rcases List.mem_cons.mp hw with rfl | hw
        · exact h3
        · rcases List.mem_cons.mp hw with rfl | hw
          · exact h4
          · cases hw
  · exact (List.mem_cons.mp hw).elim (fun e => e ▸ h5) id)
theorem g_S {own : String} {idx : Nat} {y : MethodName} {c : Cond} (h1 : Cond.methodLink own idx y ∈ TT) (h2 : Cond.static y ∈ TT) (h4 : Cond.initialized y.cls ∈ TT) (h5 : c ∈ TT) : GoodIn TT (va_wsS own idx y (c :: TT)) := good_tt (fun w hw => by
  rcases List.mem_append.mp hw with hw | hw
  · rcases List.mem_cons.mp hw with rfl | hw
    · exact h1
    · rcases List.mem_cons.mp hw with rfl | hw
      · exact h2
      · rcases List.mem_cons.mp hw with rfl | hw
        · exact h4
        · cases hw
  · exact (List.mem_cons.mp hw).elim (fun e => e ▸ h5) id)
def F_S : u_T := fun k => match k with
  | 0 => ("SieveDesk", "script", "[B", true)
  | 1 => ("SieveDesk", "tokens", "LSieveDesk$Tokens;", true)
  | 2 => ("SieveDesk", "grammar", "LSieveDesk$Grammar;", true)
  | 3 => ("SieveDesk", "length", "I", false)
  | _ => ("SieveDesk", "faultPlace", "I", false)
def ty_S : Nat → FieldType := fun k => match k with
  | 0 => .array .byte
  | 1 => .object "SieveDesk$Tokens"
  | 2 => .object "SieveDesk$Grammar"
  | 3 => .int
  | _ => .int
theorem n_S : ∀ a, a < 5 → ∀ b, b < 5 → a ≠ b → (F_S a).2.1 ≠ (F_S b).2.1 := by decide +kernel
theorem ty_S_ok : ∀ k, k < 5 → parseFieldDescriptor (F_S k).2.2.1 = some (ty_S k) := by decide +kernel
def F_T : u_T := fun k => match k with
  | 0 => ("SieveDesk$Tokens", "script", "[B", true)
  | 1 => ("SieveDesk$Tokens", "kinds", "[I", true)
  | 2 => ("SieveDesk$Tokens", "starts", "[I", true)
  | 3 => ("SieveDesk$Tokens", "words", "[LSieveDesk$Word;", true)
  | 4 => ("SieveDesk$Tokens", "says", "[I", true)
  | 5 => ("SieveDesk$Tokens", "quoted", "LSieveDesk$Quoted;", true)
  | 6 => ("SieveDesk$Tokens", "many", "I", false)
  | 7 => ("SieveDesk$Tokens", "length", "I", false)
  | _ => ("SieveDesk$Tokens", "at", "I", false)
def ty_T : Nat → FieldType := fun k => match k with
  | 0 => .array .byte
  | 1 => .array .int
  | 2 => .array .int
  | 3 => .array (.object "SieveDesk$Word")
  | 4 => .array .int
  | 5 => .object "SieveDesk$Quoted"
  | 6 => .int
  | 7 => .int
  | _ => .int
theorem n_T : ∀ a, a < 9 → ∀ b, b < 9 → a ≠ b → (F_T a).2.1 ≠ (F_T b).2.1 := by decide +kernel
theorem ty_T_ok : ∀ k, k < 9 → parseFieldDescriptor (F_T k).2.2.1 = some (ty_T k) := by decide +kernel
def F_Q : u_T := fun k => match k with
  | 0 => ("SieveDesk$Quoted", "bytes", "[B", true)
  | _ => ("SieveDesk$Quoted", "length", "I", false)
def ty_Q : Nat → FieldType := fun k => match k with
  | 0 => .array .byte
  | _ => .int
theorem n_Q : ∀ a, a < 2 → ∀ b, b < 2 → a ≠ b → (F_Q a).2.1 ≠ (F_Q b).2.1 := by decide +kernel
theorem ty_Q_ok : ∀ k, k < 2 → parseFieldDescriptor (F_Q k).2.2.1 = some (ty_Q k) := by decide +kernel
def F_G : u_T := fun k => match k with
  | 0 => ("SieveDesk$Grammar", "tokens", "LSieveDesk$Tokens;", true)
  | 1 => ("SieveDesk$Grammar", "due", "[C", true)
  | 2 => ("SieveDesk$Grammar", "manyDue", "I", false)
  | 3 => ("SieveDesk$Grammar", "at", "I", false)
  | 4 => ("SieveDesk$Grammar", "kind", "I", false)
  | 5 => ("SieveDesk$Grammar", "word", "LSieveDesk$Word;", false)
  | 6 => ("SieveDesk$Grammar", "tag", "LSieveDesk$Word;", false)
  | 7 => ("SieveDesk$Grammar", "says", "I", false)
  | 8 => ("SieveDesk$Grammar", "things", "I", false)
  | 9 => ("SieveDesk$Grammar", "strings", "I", false)
  | 10 => ("SieveDesk$Grammar", "required", "I", false)
  | 11 => ("SieveDesk$Grammar", "blocks", "I", false)
  | 12 => ("SieveDesk$Grammar", "tests", "I", false)
  | _ => ("SieveDesk$Grammar", "openGroups", "I", false)
def ty_G : Nat → FieldType := fun k => match k with
  | 0 => .object "SieveDesk$Tokens"
  | 1 => .array .char
  | 2 => .int
  | 3 => .int
  | 4 => .int
  | 5 => .object "SieveDesk$Word"
  | 6 => .object "SieveDesk$Word"
  | 7 => .int
  | 8 => .int
  | 9 => .int
  | 10 => .int
  | 11 => .int
  | 12 => .int
  | _ => .int
theorem n_G : ∀ a, a < 14 → ∀ b, b < 14 → a ≠ b → (F_G a).2.1 ≠ (F_G b).2.1 := by decide +kernel
theorem ty_G_ok : ∀ k, k < 14 → parseFieldDescriptor (F_G k).2.2.1 = some (ty_G k) := by decide +kernel
def F_M : u_T := fun k => match k with
  | 0 => ("SieveDeskModel", "words", "[J", true)
  | 1 => ("SieveDeskModel", "wordSizes", "[I", true)
  | 2 => ("SieveDeskModel", "src", "[I", true)
  | 3 => ("SieveDeskModel", "srcSize", "I", false)
  | 4 => ("SieveDeskModel", "srcAt", "I", false)
  | 5 => ("SieveDeskModel", "sort", "I", false)
  | 6 => ("SieveDeskModel", "place", "I", false)
  | 7 => ("SieveDeskModel", "size", "I", false)
  | 8 => ("SieveDeskModel", "letters", "[J", true)
  | 9 => ("SieveDeskModel", "text", "[I", true)
  | 10 => ("SieveDeskModel", "faultAt", "I", false)
  | 11 => ("SieveDeskModel", "line", "I", false)
  | 12 => ("SieveDeskModel", "counted", "I", false)
  | 13 => ("SieveDeskModel", "strings", "I", false)
  | 14 => ("SieveDeskModel", "required", "I", false)
  | 15 => ("SieveDeskModel", "blocks", "I", false)
  | 16 => ("SieveDeskModel", "tests", "I", false)
  | 17 => ("SieveDeskModel", "open", "I", false)
  | _ => ("SieveDeskModel", "row", "[I", true)
def ty_M : Nat → FieldType := fun k => match k with
  | 0 => .array .long
  | 1 => .array .int
  | 2 => .array .int
  | 3 => .int
  | 4 => .int
  | 5 => .int
  | 6 => .int
  | 7 => .int
  | 8 => .array .long
  | 9 => .array .int
  | 10 => .int
  | 11 => .int
  | 12 => .int
  | 13 => .int
  | 14 => .int
  | 15 => .int
  | 16 => .int
  | 17 => .int
  | _ => .array .int
theorem n_M : ∀ a, a < 19 → ∀ b, b < 19 → a ≠ b → (F_M a).2.1 ≠ (F_M b).2.1 := by decide +kernel
theorem ty_M_ok : ∀ k, k < 19 → parseFieldDescriptor (F_M k).2.2.1 = some (ty_M k) := by decide +kernel
abbrev cls : List vw_C := [("SieveDesk", F_S, 5), ("SieveDesk$Tokens", F_T, 9), ("SieveDesk$Quoted", F_Q, 2), ("SieveDesk$Grammar", F_G, 14), ("SieveDeskModel", F_M, 19)]
theorem i_S : ∀ w ∈ u_ws "SieveDesk" F_S 5, w ∈ TT := by decide +kernel
theorem i_T : ∀ w ∈ u_ws "SieveDesk$Tokens" F_T 9, w ∈ TT := by decide +kernel
theorem i_Q : ∀ w ∈ u_ws "SieveDesk$Quoted" F_Q 2, w ∈ TT := by decide +kernel
theorem i_G : ∀ w ∈ u_ws "SieveDesk$Grammar" F_G 14, w ∈ TT := by decide +kernel
theorem i_M : ∀ w ∈ u_ws "SieveDeskModel" F_M 19, w ∈ TT := by decide +kernel
/-! the class's world, the reference's world -/
def WE (h : Nat → Nat) (g : Nat → ClassId) (len fp many tlen tat qlen md gat kind : Int32) (wd tg : Value) (gs th st rq bl te og : Int32) (sc kd sr : Nat → Int32) (wo : Nat → Option Nat) (sa qb du : Nat → Int32) : va_W :=
  [(h 0, .inr (0, [.ref (h 1), .ref (h 2), .ref (h 9), .int len, .int fp])),
   (h 1, .inl (g 0, 400, .inl sc)),
   (h 2, .inr (1, [.ref (h 1), .ref (h 3), .ref (h 4), .ref (h 5), .ref (h 6), .ref (h 7), .int many, .int tlen, .int tat])),
   (h 3, .inl (g 1, 401, .inl kd)),
   (h 4, .inl (g 2, 401, .inl sr)),
   (h 5, .inl (g 3, 401, .inr (.inr (.inr (.inr wo))))),
   (h 6, .inl (g 4, 401, .inl sa)),
   (h 7, .inr (2, [.ref (h 8), .int qlen])),
   (h 8, .inl (g 5, 200, .inl qb)),
   (h 9, .inr (3, [.ref (h 2), .ref (h 10), .int md, .int gat, .int kind, wd, tg, .int gs, .int th, .int st, .int rq, .int bl, .int te, .int og])),
   (h 10, .inl (g 6, 200, .inl du))]
def TE (g : Nat → ClassId) : List (ClassId × FieldType) := [(g 0, .byte), (g 1, .int), (g 2, .int), (g 3, .object "SieveDesk$Word"), (g 4, .int), (g 5, .byte), (g 6, .char)]
def ME (h : Nat → Nat) (g : Nat → ClassId) (ss sa so pl sz fa li co st rq bl te op : Int32) (wo : Nat → Int64) (wz sr : Nat → Int32) (le : Nat → Int64) (tx ro : Nat → Int32) : va_W :=
  [(h 0, .inr (4, [.ref (h 1), .ref (h 2), .ref (h 3), .int ss, .int sa, .int so, .int pl, .int sz, .ref (h 4), .ref (h 5), .int fa, .int li, .int co, .int st, .int rq, .int bl, .int te, .int op, .ref (h 6)])),
   (h 1, .inl (g 0, 220, .inr (.inl wo))),
   (h 2, .inl (g 1, 55, .inl wz)),
   (h 3, .inl (g 2, 400, .inl sr)),
   (h 4, .inl (g 3, 4, .inr (.inl le))),
   (h 5, .inl (g 4, 1010, .inl tx)),
   (h 6, .inl (g 5, 80, .inl ro))]
def TM (g : Nat → ClassId) : List (ClassId × FieldType) := [(g 0, .long), (g 1, .int), (g 2, .int), (g 3, .long), (g 4, .int), (g 5, .int)]
/-! what the start gives of constants: k 0 NONE, k 1 REQUIRE, k 2 the String qc., k 3 its bytes -/
def KE (k : Nat → Nat) (A : Nat → Prop) (U : State) (H : Heap) : Prop :=
  (∀ w ∈ NT, va_Nw w U) ∧ va_AO "SieveDesk$Word" U ∧
  va_Z "SieveDesk$Word" "NONE" "LSieveDesk$Word;" (.ref (k 0)) A U H ∧ va_Z "SieveDesk$Word" "REQUIRE" "LSieveDesk$Word;" (.ref (k 1)) A U H ∧ k 0 ≠ k 1 ∧
  va_O "SieveDesk$Word" (k 0) A U H ∧ va_OF "SieveDesk$Word" "role" "I" (.int 0) (k 0) A U H ∧
  vk_R "SieveDesk$Grammar" 59 "qc." (k 2) U ∧ vk_S 1 [3] [[113, 99, 46]] (fun _ => k 2) (fun _ => k 3) A U H ∧
  va_Z "java/lang/String" "COMPACT_STRINGS" "Z" (.int 1) A U H ∧ va_Zq "jdk/internal/util/Preconditions" "SIOOBE_FORMATTER" "Ljava/util/function/BiFunction;" A U H
theorem KE.narrow {k : Nat → Nat} {A B : Nat → Prop} {U : State} {H : Heap} (h : KE k A U H) (hAB : ∀ q, B q → A q) : KE k B U H := by
  obtain ⟨a1, a2, a3, a4, a5, a6, a7, a8, a9, a10, a11⟩ := h
  exact ⟨a1, a2, a3.narrow hAB, a4.narrow hAB, a5, a6.narrow hAB, a7.narrow hAB, a8, a9.narrow hAB, a10.narrow hAB, a11.narrow hAB⟩
theorem KE.kept {k : Nat → Nat} {A : Nat → Prop} {U : State} {H H1 : Heap} (h : KE k A U H) (hq : ∀ a : Nat, a < H.size → ¬ A a → H1[a]? = H[a]?) : KE k A U H1 := by
  obtain ⟨a1, a2, a3, a4, a5, a6, a7, a8, a9, a10, a11⟩ := h
  exact ⟨a1, a2, a3.kept hq, a4.kept hq, a5, a6.kept hq, a7.kept hq, a8, a9.kept hq, a10.kept hq, a11.kept hq⟩
theorem nw_warm {w : Cond} {s U : State} (hw : w ∈ NT) (hW : s.WarmedH U.vm) (h : va_Nw w s) : va_Nw w U := by
  have h1 := (List.mem_filter.mp hw).2
  simp only [Bool.and_eq_true] at h1
  exact va_tabs h1.1 (rfl : (s.setVm U.vm).vm = U.vm) (Cond.onTables_warmH (args' := #[]) (T := s) hW h1.1 h1.2 h)
theorem nw_same {w : Cond} {u U : State} (hw : w ∈ NT) (hv : u.vm = U.vm) (h : va_Nw w u) : va_Nw w U := by
  have h1 := (List.mem_filter.mp hw).2
  simp only [Bool.and_eq_true] at h1
  exact va_Nw.same h1.1 hv h
theorem nw_use {w : Cond} {A : Array Value} {U : State} (hw : w ∈ NT) (h : va_Nw w U) : w.before A U = true := by
  have h1 := (List.mem_filter.mp hw).2
  simp only [Bool.and_eq_true] at h1
  exact va_Nw.use h1.1 h
theorem KE.warm {k : Nat → Nat} {A : Nat → Prop} {s U : State} {H : Heap} (hW : s.WarmedH U.vm) (h : KE k A s H) : KE k A U H := by
  obtain ⟨a1, a2, a3, a4, a5, a6, a7, a8, a9, a10, a11⟩ := h
  exact ⟨fun w hw => nw_warm hw hW (a1 w hw), a2.moved hW.alike, a3.moved hW.alike, a4.moved hW.alike, a5, a6.moved hW.alike, a7.moved hW.alike, a8.warm hW, a9.moved hW.alike, a10.moved hW.alike, a11.moved hW.alike⟩
theorem KE.same {k : Nat → Nat} {A : Nat → Prop} {s U : State} {H : Heap} (hv : s.vm = U.vm) (h : KE k A s H) : KE k A U H := by
  obtain ⟨a1, a2, a3, a4, a5, a6, a7, a8, a9, a10, a11⟩ := h
  have hal : s.vm.Alike U.vm := hv ▸ Vm.Alike.refl s.vm
  exact ⟨fun w hw => nw_same hw hv (a1 w hw), a2.moved hal, a3.moved hal, a4.moved hal, a5, a6.moved hal, a7.moved hal, a8.same hv.symm, a9.moved hal, a10.moved hal, a11.moved hal⟩
/-! a contract's start: the world ws, the constants; its end -/
def PX (dC : Nat → ClassId) (dI : Nat → Nat → Nat) (k : Nat → Nat) (tys : List (ClassId × FieldType)) (ws : va_W) (sz : Nat) (U : State) : Prop := U.heap.size = sz ∧ KE k (va_A ws sz) U U.heap ∧ va_P (dC, dI) cls ws U.heap ∧ va_K (dC, dI) cls tys U ∧ va_D (fun _ => True) ws
def BX (dC : Nat → ClassId) (dI : Nat → Nat → Nat) (tys : List (ClassId × FieldType)) (A : Nat → Prop) (ws : va_W) (t : State) : Prop := va_P (dC, dI) cls ws t.heap ∧ va_K (dC, dI) cls tys t ∧ va_D A ws
def PJ (k : Nat → Nat) (U : State) : Prop := KE k (fun _ => False) U U.heap
theorem fb_X {dC : Nat → ClassId} {dI : Nat → Nat → Nat} {k : Nat → Nat} {tys : List (ClassId × FieldType)} {ws : va_W} {sz : Nat} {av : List Value} : FrameBlind (va_Pc av (PX dC dI k tys ws sz)) := fun a U g mk q => by
  obtain ⟨q0, q1, q2, q3, q4, q5⟩ := q
  exact ⟨q0, q1, q2.same (s := U) (U := U.calling g mk a) rfl, q3, va_K.moved (u := U) (U := U.calling g mk a) (Vm.Alike.refl U.vm) q4, q5⟩
theorem pre_X {dC : Nat → ClassId} {dI : Nat → Nat → Nat} {k : Nat → Nat} {tys : List (ClassId × FieldType)} {ws : va_W} {av : List Value} {A : Nat → Prop} {s : State} {H : Heap} {locs : List Loc} (hE : KE k A s s.heap) (hS : va_S A s.heap H locs) (hF : ∀ q, va_A ws H.size q → A q) (hP : va_P (dC, dI) cls ws H) (hK : va_K (dC, dI) cls tys s) (hD : va_D A ws) : ∀ U : State, U.heap = H → s.WarmedH U.vm → va_Pc av (PX dC dI k tys ws H.size) av.toArray U := fun U hU hW => by
  subst hU
  exact ⟨rfl, rfl, ((hE.kept hS.2.1).narrow hF).warm hW, hP, va_K.moved hW.alike hK, hD.weaken (fun _ _ _ _ => trivial)⟩
theorem fb_J {k : Nat → Nat} {av : List Value} : FrameBlind (va_Pc av (PJ k)) := fun a U g mk q => by
  obtain ⟨q0, q1⟩ := q
  exact ⟨q0, q1.same (s := U) (U := U.calling g mk a) rfl⟩
theorem pre_J {k : Nat → Nat} {av : List Value} {A : Nat → Prop} {s : State} {H : Heap} {locs : List Loc} (hE : KE k A s s.heap) (hS : va_S A s.heap H locs) : ∀ U : State, U.heap = H → s.WarmedH U.vm → va_Pc av (PJ k) av.toArray U := fun U hU hW => by
  subst hU
  exact ⟨rfl, ((hE.kept hS.2.1).narrow (fun _ h => h.elim)).warm hW⟩
section WEV
variable {p : Program} {l : Launch} {e : Env} {R : Room} {s : State} {m : MethodId} {args : Array Value} {below : List Frame} {meth : Method} {c : Code} {H : Heap} {locs : List Loc} {cells slots : Nat} {Q : State → Prop} {cc : ByteArray} {pc : Nat} {ls : Array Slot} {rest : List Value}
theorem lv_ev {x y : Int32} (h : x = y) (kk : W p l e R s m args below meth c H locs cells slots Q (F0 m pc ls (.int y :: rest))) : W p l e R s m args below meth c H locs cells slots Q (F0 m pc ls (.int x :: rest)) := h ▸ kk
theorem vk_getfN (hexec : p.tables.exec = Jvm.exec) (hb : c.code = cc) {o n d own ref host : String} {index q : Nat} {v : Value} {A : Nat → Prop} (hE : va_OF o n d v q A s s.heap) (hS : va_S A s.heap H locs) (hown : s.vm.findClass own = some m.cls) (hlink : (Cond.fieldLinkNest own index ref n d host).before args s = true) (hsame : ∀ x, s.fieldFound? o n d = some x → s.fieldFound? ref n d = some x) (hdg : decode cc pc = .ok (.getfield index, 3)) (kk : W p l e R s m args below meth c H locs cells slots Q (F0 m (pc + 3) ls (v :: rest))) : W p l e R s m args below meth c H locs cells slots Q (F0 m pc ls (.ref q :: rest)) := by
  obtain ⟨cf, k, i, f, cell, h1, h2, h3, h4, h5, h6⟩ := hE
  exact va_Wgetf hexec hb hown hlink (hsame _ h1) h2 (by rw [hS.2.1 q (Array.getElem?_eq_some_iff.mp h3).1 h6]; exact h3) h4 h5 rfl rfl hdg kk
end WEV
theorem oo_recv {E : String} {t : Nat} {A : Nat → Prop} {s : State} {H : Heap} {locs : List Loc} (h : va_O E t A s s.heap) (hS : va_S A s.heap H locs) : ∃ cell : Cell, H[t]? = some cell ∧ cell.vm.isStatics = false ∧ s.vm.findClass E = some cell.cls := by
  obtain ⟨cell, h1, h2, h3, h4⟩ := h
  exact ⟨cell, by rw [hS.2.1 t (Array.getElem?_eq_some_iff.mp h1).1 h4]; exact h1, h2, h3⟩
end
section
abbrev b_G_init : ByteArray := prog_2_method_1_code
def y_G_init : MethodName := ⟨"SieveDesk$Grammar", "<init>", "(LSieveDesk$Tokens;)V"⟩
abbrev b_JL_charAt : ByteArray := prog_13_method_2_code
def y_JL_charAt : MethodName := ⟨"java/lang/StringLatin1", "charAt", "([BI)C"⟩
abbrev b_JP_checkIndex : ByteArray := prog_15_method_11_code
def y_JP_checkIndex : MethodName := ⟨"jdk/internal/util/Preconditions", "checkIndex", "(IILjava/util/function/BiFunction;)I"⟩
abbrev b_JS_charAt : ByteArray := prog_12_method_56_code
def y_JS_charAt : MethodName := ⟨"java/lang/String", "charAt", "(I)C"⟩
abbrev b_JS_checkIndex : ByteArray := prog_12_method_155_code
def y_JS_checkIndex : MethodName := ⟨"java/lang/String", "checkIndex", "(II)V"⟩
abbrev b_JS_coder : ByteArray := prog_12_method_152_code
def y_JS_coder : MethodName := ⟨"java/lang/String", "coder", "()B"⟩
abbrev b_JS_isLatin1 : ByteArray := prog_12_method_154_code
def y_JS_isLatin1 : MethodName := ⟨"java/lang/String", "isLatin1", "()Z"⟩
abbrev b_JS_length : ByteArray := prog_12_method_54_code
def y_JS_length : MethodName := ⟨"java/lang/String", "length", "()I"⟩
abbrev b_Q_init : ByteArray := prog_4_method_1_code
def y_Q_init : MethodName := ⟨"SieveDesk$Quoted", "<init>", "()V"⟩
abbrev b_S_init : ByteArray := prog_1_method_1_code
def y_S_init : MethodName := ⟨"SieveDesk", "<init>", "()V"⟩
abbrev b_T_init : ByteArray := prog_5_method_1_code
def y_T_init : MethodName := ⟨"SieveDesk$Tokens", "<init>", "([B)V"⟩
theorem k_75 : Cond.initialized "SieveDesk$Tokens" ∈ TT := mem_tt (i := 75) (by decide +kernel) (by decide +kernel)
theorem k_76 : Cond.initialized "SieveDesk$Quoted" ∈ TT := mem_tt (i := 76) (by decide +kernel) (by decide +kernel)
theorem k_77 : Cond.initialized "SieveDesk$Grammar" ∈ TT := mem_tt (i := 77) (by decide +kernel) (by decide +kernel)
theorem k_81 : Cond.initialized "java/lang/String" ∈ TT := mem_tt (i := 81) (by decide +kernel) (by decide +kernel)
theorem k_82 : Cond.initialized "java/lang/StringLatin1" ∈ TT := mem_tt (i := 82) (by decide +kernel) (by decide +kernel)
theorem k_83 : Cond.initialized "jdk/internal/util/Preconditions" ∈ TT := mem_tt (i := 83) (by decide +kernel) (by decide +kernel)
theorem k_93 : Cond.methodLink "SieveDesk" 3 objectInit ∈ TT := mem_tt (i := 93) (by decide +kernel) (by decide +kernel)
theorem k_94 : Cond.instanceMethod objectInit ∈ TT := mem_tt (i := 94) (by decide +kernel) (by decide +kernel)
theorem k_95 : Cond.code objectInit ⟨#[0xb1]⟩ 1 none ∈ TT := mem_tt (i := 95) (by decide +kernel) (by decide +kernel)
theorem k_96 : Cond.classLink "SieveDesk" 13 "SieveDesk$Tokens" ∈ TT := mem_tt (i := 96) (by decide +kernel) (by decide +kernel)
theorem k_97 : Cond.instantiable "SieveDesk$Tokens" 9 ∈ TT := mem_tt (i := 97) (by decide +kernel) (by decide +kernel)
theorem k_98 : Cond.methodLink "SieveDesk" 15 y_T_init ∈ TT := mem_tt (i := 98) (by decide +kernel) (by decide +kernel)
theorem k_99 : Cond.instanceMethod y_T_init ∈ TT := mem_tt (i := 99) (by decide +kernel) (by decide +kernel)
theorem k_100 : Cond.code y_T_init b_T_init 2 none ∈ TT := mem_tt (i := 100) (by decide +kernel) (by decide +kernel)
theorem k_101 : Cond.methodLink "SieveDesk$Tokens" 3 objectInit ∈ TT := mem_tt (i := 101) (by decide +kernel) (by decide +kernel)
theorem k_102 : Cond.classLink "SieveDesk$Tokens" 22 "SieveDesk$Word" ∈ TT := mem_tt (i := 102) (by decide +kernel) (by decide +kernel)
theorem k_104 : Cond.classLink "SieveDesk$Tokens" 31 "SieveDesk$Quoted" ∈ TT := mem_tt (i := 104) (by decide +kernel) (by decide +kernel)
theorem k_105 : Cond.instantiable "SieveDesk$Quoted" 2 ∈ TT := mem_tt (i := 105) (by decide +kernel) (by decide +kernel)
theorem k_106 : Cond.methodLink "SieveDesk$Tokens" 33 y_Q_init ∈ TT := mem_tt (i := 106) (by decide +kernel) (by decide +kernel)
theorem k_107 : Cond.instanceMethod y_Q_init ∈ TT := mem_tt (i := 107) (by decide +kernel) (by decide +kernel)
theorem k_108 : Cond.code y_Q_init b_Q_init 1 none ∈ TT := mem_tt (i := 108) (by decide +kernel) (by decide +kernel)
theorem k_109 : Cond.methodLink "SieveDesk$Quoted" 3 objectInit ∈ TT := mem_tt (i := 109) (by decide +kernel) (by decide +kernel)
theorem k_110 : Cond.fieldLink "SieveDesk$Quoted" 9 "SieveDesk$Quoted" "bytes" "[B" ∈ TT := mem_tt (i := 110) (by decide +kernel) (by decide +kernel)
theorem k_111 : Cond.fieldLink "SieveDesk$Quoted" 15 "SieveDesk$Quoted" "length" "I" ∈ TT := mem_tt (i := 111) (by decide +kernel) (by decide +kernel)
theorem k_117 : (Cond.arrayClass FieldType.byte) ∈ TT := mem_tt (i := 117) (by decide +kernel) (by decide +kernel)
theorem k_118 : (Cond.arrayClass FieldType.int) ∈ TT := mem_tt (i := 118) (by decide +kernel) (by decide +kernel)
theorem k_119 : Cond.fieldLink "SieveDesk$Tokens" 9 "SieveDesk$Tokens" "script" "[B" ∈ TT := mem_tt (i := 119) (by decide +kernel) (by decide +kernel)
theorem k_120 : Cond.fieldLink "SieveDesk$Tokens" 15 "SieveDesk$Tokens" "kinds" "[I" ∈ TT := mem_tt (i := 120) (by decide +kernel) (by decide +kernel)
theorem k_122 : Cond.fieldLink "SieveDesk$Tokens" 19 "SieveDesk$Tokens" "starts" "[I" ∈ TT := mem_tt (i := 122) (by decide +kernel) (by decide +kernel)
theorem k_124 : Cond.fieldLink "SieveDesk$Tokens" 24 "SieveDesk$Tokens" "words" "[LSieveDesk$Word;" ∈ TT := mem_tt (i := 124) (by decide +kernel) (by decide +kernel)
theorem k_126 : Cond.fieldLink "SieveDesk$Tokens" 28 "SieveDesk$Tokens" "says" "[I" ∈ TT := mem_tt (i := 126) (by decide +kernel) (by decide +kernel)
theorem k_128 : Cond.fieldLink "SieveDesk$Tokens" 34 "SieveDesk$Tokens" "quoted" "LSieveDesk$Quoted;" ∈ TT := mem_tt (i := 128) (by decide +kernel) (by decide +kernel)
theorem k_129 : Cond.fieldLink "SieveDesk$Tokens" 38 "SieveDesk$Tokens" "many" "I" ∈ TT := mem_tt (i := 129) (by decide +kernel) (by decide +kernel)
theorem k_131 : Cond.fieldLink "SieveDesk$Tokens" 42 "SieveDesk$Tokens" "length" "I" ∈ TT := mem_tt (i := 131) (by decide +kernel) (by decide +kernel)
theorem k_132 : Cond.fieldLink "SieveDesk$Tokens" 45 "SieveDesk$Tokens" "at" "I" ∈ TT := mem_tt (i := 132) (by decide +kernel) (by decide +kernel)
theorem k_152 : Cond.classLink "SieveDesk" 22 "SieveDesk$Grammar" ∈ TT := mem_tt (i := 152) (by decide +kernel) (by decide +kernel)
theorem k_153 : Cond.instantiable "SieveDesk$Grammar" 14 ∈ TT := mem_tt (i := 153) (by decide +kernel) (by decide +kernel)
theorem k_154 : Cond.methodLink "SieveDesk" 24 y_G_init ∈ TT := mem_tt (i := 154) (by decide +kernel) (by decide +kernel)
theorem k_155 : Cond.instanceMethod y_G_init ∈ TT := mem_tt (i := 155) (by decide +kernel) (by decide +kernel)
theorem k_156 : Cond.code y_G_init b_G_init 2 none ∈ TT := mem_tt (i := 156) (by decide +kernel) (by decide +kernel)
theorem k_157 : Cond.methodLink "SieveDesk$Grammar" 3 objectInit ∈ TT := mem_tt (i := 157) (by decide +kernel) (by decide +kernel)
theorem k_158 : Cond.fieldLink "SieveDesk$Grammar" 19 "SieveDesk$Word" "NONE" "LSieveDesk$Word;" ∈ TT := mem_tt (i := 158) (by decide +kernel) (by decide +kernel)
theorem k_160 : Cond.fieldLink "SieveDesk$Grammar" 9 "SieveDesk$Grammar" "tokens" "LSieveDesk$Tokens;" ∈ TT := mem_tt (i := 160) (by decide +kernel) (by decide +kernel)
theorem k_161 : Cond.fieldLink "SieveDesk$Grammar" 15 "SieveDesk$Grammar" "due" "[C" ∈ TT := mem_tt (i := 161) (by decide +kernel) (by decide +kernel)
theorem k_165 : Cond.fieldLink "SieveDesk$Grammar" 25 "SieveDesk$Grammar" "word" "LSieveDesk$Word;" ∈ TT := mem_tt (i := 165) (by decide +kernel) (by decide +kernel)
theorem k_166 : Cond.fieldLink "SieveDesk$Grammar" 28 "SieveDesk$Grammar" "tag" "LSieveDesk$Word;" ∈ TT := mem_tt (i := 166) (by decide +kernel) (by decide +kernel)
theorem k_206 : (Cond.arrayClass FieldType.char) ∈ TT := mem_tt (i := 206) (by decide +kernel) (by decide +kernel)
theorem k_207 : Cond.fieldLink "SieveDesk" 9 "SieveDesk" "script" "[B" ∈ TT := mem_tt (i := 207) (by decide +kernel) (by decide +kernel)
theorem k_208 : Cond.fieldLink "SieveDesk" 18 "SieveDesk" "tokens" "LSieveDesk$Tokens;" ∈ TT := mem_tt (i := 208) (by decide +kernel) (by decide +kernel)
theorem k_209 : Cond.fieldLink "SieveDesk" 27 "SieveDesk" "grammar" "LSieveDesk$Grammar;" ∈ TT := mem_tt (i := 209) (by decide +kernel) (by decide +kernel)
theorem k_210 : Cond.fieldLink "SieveDesk" 31 "SieveDesk" "length" "I" ∈ TT := mem_tt (i := 210) (by decide +kernel) (by decide +kernel)
theorem k_211 : Cond.fieldLink "SieveDesk" 35 "SieveDesk" "faultPlace" "I" ∈ TT := mem_tt (i := 211) (by decide +kernel) (by decide +kernel)
theorem k_288 : Cond.methodLink "java/lang/String" 335 y_JS_coder ∈ TT := mem_tt (i := 288) (by decide +kernel) (by decide +kernel)
theorem k_289 : Cond.instanceMethod y_JS_coder ∈ TT := mem_tt (i := 289) (by decide +kernel) (by decide +kernel)
theorem k_290 : Cond.selects "java/lang/String" y_JS_coder y_JS_coder ∈ TT := mem_tt (i := 290) (by decide +kernel) (by decide +kernel)
theorem k_291 : Cond.code y_JS_coder b_JS_coder 1 (some .byte) ∈ TT := mem_tt (i := 291) (by decide +kernel) (by decide +kernel)
theorem k_292 : Cond.fieldLink "java/lang/String" 38 "java/lang/String" "COMPACT_STRINGS" "Z" ∈ TT := mem_tt (i := 292) (by decide +kernel) (by decide +kernel)
theorem k_298 : Cond.methodLink "java/lang/String" 492 y_JS_isLatin1 ∈ TT := mem_tt (i := 298) (by decide +kernel) (by decide +kernel)
theorem k_299 : Cond.instanceMethod y_JS_isLatin1 ∈ TT := mem_tt (i := 299) (by decide +kernel) (by decide +kernel)
theorem k_300 : Cond.selects "java/lang/String" y_JS_isLatin1 y_JS_isLatin1 ∈ TT := mem_tt (i := 300) (by decide +kernel) (by decide +kernel)
theorem k_301 : Cond.code y_JS_isLatin1 b_JS_isLatin1 1 (some .boolean) ∈ TT := mem_tt (i := 301) (by decide +kernel) (by decide +kernel)
theorem k_302 : Cond.methodLink "java/lang/String" 495 y_JL_charAt ∈ TT := mem_tt (i := 302) (by decide +kernel) (by decide +kernel)
theorem k_303 : Cond.static y_JL_charAt ∈ TT := mem_tt (i := 303) (by decide +kernel) (by decide +kernel)
theorem k_304 : Cond.code y_JL_charAt b_JL_charAt 2 (some .char) ∈ TT := mem_tt (i := 304) (by decide +kernel) (by decide +kernel)
theorem k_305 : Cond.methodLink "java/lang/StringLatin1" 9 y_JS_checkIndex ∈ TT := mem_tt (i := 305) (by decide +kernel) (by decide +kernel)
theorem k_306 : Cond.static y_JS_checkIndex ∈ TT := mem_tt (i := 306) (by decide +kernel) (by decide +kernel)
theorem k_307 : Cond.code y_JS_checkIndex b_JS_checkIndex 2 none ∈ TT := mem_tt (i := 307) (by decide +kernel) (by decide +kernel)
theorem k_308 : Cond.fieldLink "java/lang/String" 1053 "jdk/internal/util/Preconditions" "SIOOBE_FORMATTER" "Ljava/util/function/BiFunction;" ∈ TT := mem_tt (i := 308) (by decide +kernel) (by decide +kernel)
theorem k_310 : Cond.methodLink "java/lang/String" 1059 y_JP_checkIndex ∈ TT := mem_tt (i := 310) (by decide +kernel) (by decide +kernel)
theorem k_311 : Cond.static y_JP_checkIndex ∈ TT := mem_tt (i := 311) (by decide +kernel) (by decide +kernel)
theorem k_312 : Cond.code y_JP_checkIndex b_JP_checkIndex 3 (some .int) ∈ TT := mem_tt (i := 312) (by decide +kernel) (by decide +kernel)
theorem k_867 : Cond.fieldLink "java/lang/String" 9 "java/lang/String" "value" "[B" ∈ TT := mem_tt (i := 867) (by decide +kernel) (by decide +kernel)
theorem k_868 : Cond.fieldLink "java/lang/String" 15 "java/lang/String" "coder" "B" ∈ TT := mem_tt (i := 868) (by decide +kernel) (by decide +kernel)
end
section
theorem d_G_init_0 : decode b_G_init 0 = .ok (.aload_n 0, 1) := by decide +kernel
theorem d_G_init_1 : decode b_G_init 1 = .ok (.invokespecial 3, 3) := by decide +kernel
theorem d_G_init_4 : decode b_G_init 4 = .ok (.aload_n 0, 1) := by decide +kernel
theorem d_G_init_5 : decode b_G_init 5 = .ok (.aload_n 1, 1) := by decide +kernel
theorem d_G_init_6 : decode b_G_init 6 = .ok (.putfield 9, 3) := by decide +kernel
theorem d_G_init_9 : decode b_G_init 9 = .ok (.aload_n 0, 1) := by decide +kernel
theorem d_G_init_10 : decode b_G_init 10 = .ok (.sipush 200, 3) := by decide +kernel
theorem d_G_init_13 : decode b_G_init 13 = .ok (.newarray .char, 2) := by decide +kernel
theorem d_G_init_15 : decode b_G_init 15 = .ok (.putfield 15, 3) := by decide +kernel
theorem d_G_init_18 : decode b_G_init 18 = .ok (.aload_n 0, 1) := by decide +kernel
theorem d_G_init_19 : decode b_G_init 19 = .ok (.getstatic 19, 3) := by decide +kernel
theorem d_G_init_22 : decode b_G_init 22 = .ok (.putfield 25, 3) := by decide +kernel
theorem d_G_init_25 : decode b_G_init 25 = .ok (.aload_n 0, 1) := by decide +kernel
theorem d_G_init_26 : decode b_G_init 26 = .ok (.getstatic 19, 3) := by decide +kernel
theorem d_G_init_29 : decode b_G_init 29 = .ok (.putfield 28, 3) := by decide +kernel
theorem d_G_init_32 : decode b_G_init 32 = .ok (.return_, 1) := by decide +kernel
theorem d_JL_charAt_0 : decode b_JL_charAt 0 = .ok (.iload_n 1, 1) := by decide +kernel
theorem d_JL_charAt_1 : decode b_JL_charAt 1 = .ok (.aload_n 0, 1) := by decide +kernel
theorem d_JL_charAt_2 : decode b_JL_charAt 2 = .ok (.arraylength, 1) := by decide +kernel
theorem d_JL_charAt_3 : decode b_JL_charAt 3 = .ok (.invokestatic 9, 3) := by decide +kernel
theorem d_JL_charAt_6 : decode b_JL_charAt 6 = .ok (.aload_n 0, 1) := by decide +kernel
theorem d_JL_charAt_7 : decode b_JL_charAt 7 = .ok (.iload_n 1, 1) := by decide +kernel
theorem d_JL_charAt_8 : decode b_JL_charAt 8 = .ok (.baload, 1) := by decide +kernel
theorem d_JL_charAt_9 : decode b_JL_charAt 9 = .ok (.sipush 255, 3) := by decide +kernel
theorem d_JL_charAt_12 : decode b_JL_charAt 12 = .ok (.iand, 1) := by decide +kernel
theorem d_JL_charAt_13 : decode b_JL_charAt 13 = .ok (.i2c, 1) := by decide +kernel
theorem d_JL_charAt_14 : decode b_JL_charAt 14 = .ok (.ireturn, 1) := by decide +kernel
theorem d_JP_checkIndex_0 : decode b_JP_checkIndex 0 = .ok (.iload_n 0, 1) := by decide +kernel
theorem d_JP_checkIndex_1 : decode b_JP_checkIndex 1 = .ok (.ifCond .lt 8, 3) := by decide +kernel
theorem d_JP_checkIndex_4 : decode b_JP_checkIndex 4 = .ok (.iload_n 0, 1) := by decide +kernel
theorem d_JP_checkIndex_5 : decode b_JP_checkIndex 5 = .ok (.iload_n 1, 1) := by decide +kernel
theorem d_JP_checkIndex_6 : decode b_JP_checkIndex 6 = .ok (.if_icmp .lt 10, 3) := by decide +kernel
theorem d_JP_checkIndex_16 : decode b_JP_checkIndex 16 = .ok (.iload_n 0, 1) := by decide +kernel
theorem d_JP_checkIndex_17 : decode b_JP_checkIndex 17 = .ok (.ireturn, 1) := by decide +kernel
theorem d_JS_charAt_0 : decode b_JS_charAt 0 = .ok (.aload_n 0, 1) := by decide +kernel
theorem d_JS_charAt_1 : decode b_JS_charAt 1 = .ok (.invokevirtual 492, 3) := by decide +kernel
theorem d_JS_charAt_4 : decode b_JS_charAt 4 = .ok (.ifCond .eq 12, 3) := by decide +kernel
theorem d_JS_charAt_7 : decode b_JS_charAt 7 = .ok (.aload_n 0, 1) := by decide +kernel
theorem d_JS_charAt_8 : decode b_JS_charAt 8 = .ok (.getfield 9, 3) := by decide +kernel
theorem d_JS_charAt_11 : decode b_JS_charAt 11 = .ok (.iload_n 1, 1) := by decide +kernel
theorem d_JS_charAt_12 : decode b_JS_charAt 12 = .ok (.invokestatic 495, 3) := by decide +kernel
theorem d_JS_charAt_15 : decode b_JS_charAt 15 = .ok (.ireturn, 1) := by decide +kernel
theorem d_JS_checkIndex_0 : decode b_JS_checkIndex 0 = .ok (.iload_n 0, 1) := by decide +kernel
theorem d_JS_checkIndex_1 : decode b_JS_checkIndex 1 = .ok (.iload_n 1, 1) := by decide +kernel
theorem d_JS_checkIndex_2 : decode b_JS_checkIndex 2 = .ok (.getstatic 1053, 3) := by decide +kernel
theorem d_JS_checkIndex_5 : decode b_JS_checkIndex 5 = .ok (.invokestatic 1059, 3) := by decide +kernel
theorem d_JS_checkIndex_8 : decode b_JS_checkIndex 8 = .ok (.pop, 1) := by decide +kernel
theorem d_JS_checkIndex_9 : decode b_JS_checkIndex 9 = .ok (.return_, 1) := by decide +kernel
theorem d_JS_coder_0 : decode b_JS_coder 0 = .ok (.getstatic 38, 3) := by decide +kernel
theorem d_JS_coder_3 : decode b_JS_coder 3 = .ok (.ifCond .eq 10, 3) := by decide +kernel
theorem d_JS_coder_6 : decode b_JS_coder 6 = .ok (.aload_n 0, 1) := by decide +kernel
theorem d_JS_coder_7 : decode b_JS_coder 7 = .ok (.getfield 15, 3) := by decide +kernel
theorem d_JS_coder_10 : decode b_JS_coder 10 = .ok (.goto 4, 3) := by decide +kernel
theorem d_JS_coder_14 : decode b_JS_coder 14 = .ok (.ireturn, 1) := by decide +kernel
theorem d_JS_isLatin1_0 : decode b_JS_isLatin1 0 = .ok (.getstatic 38, 3) := by decide +kernel
theorem d_JS_isLatin1_3 : decode b_JS_isLatin1 3 = .ok (.ifCond .eq 14, 3) := by decide +kernel
theorem d_JS_isLatin1_6 : decode b_JS_isLatin1 6 = .ok (.aload_n 0, 1) := by decide +kernel
theorem d_JS_isLatin1_7 : decode b_JS_isLatin1 7 = .ok (.getfield 15, 3) := by decide +kernel
theorem d_JS_isLatin1_10 : decode b_JS_isLatin1 10 = .ok (.ifCond .ne 7, 3) := by decide +kernel
theorem d_JS_isLatin1_13 : decode b_JS_isLatin1 13 = .ok (.iconst 1, 1) := by decide +kernel
theorem d_JS_isLatin1_14 : decode b_JS_isLatin1 14 = .ok (.goto 4, 3) := by decide +kernel
theorem d_JS_isLatin1_18 : decode b_JS_isLatin1 18 = .ok (.ireturn, 1) := by decide +kernel
theorem d_JS_length_0 : decode b_JS_length 0 = .ok (.aload_n 0, 1) := by decide +kernel
theorem d_JS_length_1 : decode b_JS_length 1 = .ok (.getfield 9, 3) := by decide +kernel
theorem d_JS_length_4 : decode b_JS_length 4 = .ok (.arraylength, 1) := by decide +kernel
theorem d_JS_length_5 : decode b_JS_length 5 = .ok (.aload_n 0, 1) := by decide +kernel
theorem d_JS_length_6 : decode b_JS_length 6 = .ok (.invokevirtual 335, 3) := by decide +kernel
theorem d_JS_length_9 : decode b_JS_length 9 = .ok (.ishr, 1) := by decide +kernel
theorem d_JS_length_10 : decode b_JS_length 10 = .ok (.ireturn, 1) := by decide +kernel
theorem d_Q_init_0 : decode b_Q_init 0 = .ok (.aload_n 0, 1) := by decide +kernel
theorem d_Q_init_1 : decode b_Q_init 1 = .ok (.invokespecial 3, 3) := by decide +kernel
theorem d_Q_init_4 : decode b_Q_init 4 = .ok (.aload_n 0, 1) := by decide +kernel
theorem d_Q_init_5 : decode b_Q_init 5 = .ok (.sipush 200, 3) := by decide +kernel
theorem d_Q_init_8 : decode b_Q_init 8 = .ok (.newarray .byte, 2) := by decide +kernel
theorem d_Q_init_10 : decode b_Q_init 10 = .ok (.putfield 9, 3) := by decide +kernel
theorem d_Q_init_13 : decode b_Q_init 13 = .ok (.aload_n 0, 1) := by decide +kernel
theorem d_Q_init_14 : decode b_Q_init 14 = .ok (.iconst 0, 1) := by decide +kernel
theorem d_Q_init_15 : decode b_Q_init 15 = .ok (.putfield 15, 3) := by decide +kernel
theorem d_Q_init_18 : decode b_Q_init 18 = .ok (.return_, 1) := by decide +kernel
theorem d_S_init_0 : decode b_S_init 0 = .ok (.aload_n 0, 1) := by decide +kernel
theorem d_S_init_1 : decode b_S_init 1 = .ok (.invokespecial 3, 3) := by decide +kernel
theorem d_S_init_4 : decode b_S_init 4 = .ok (.aload_n 0, 1) := by decide +kernel
theorem d_S_init_5 : decode b_S_init 5 = .ok (.sipush 400, 3) := by decide +kernel
theorem d_S_init_8 : decode b_S_init 8 = .ok (.newarray .byte, 2) := by decide +kernel
theorem d_S_init_10 : decode b_S_init 10 = .ok (.putfield 9, 3) := by decide +kernel
theorem d_S_init_13 : decode b_S_init 13 = .ok (.aload_n 0, 1) := by decide +kernel
theorem d_S_init_14 : decode b_S_init 14 = .ok (.new 13, 3) := by decide +kernel
theorem d_S_init_17 : decode b_S_init 17 = .ok (.dup, 1) := by decide +kernel
theorem d_S_init_18 : decode b_S_init 18 = .ok (.aload_n 0, 1) := by decide +kernel
theorem d_S_init_19 : decode b_S_init 19 = .ok (.getfield 9, 3) := by decide +kernel
theorem d_S_init_22 : decode b_S_init 22 = .ok (.invokespecial 15, 3) := by decide +kernel
theorem d_S_init_25 : decode b_S_init 25 = .ok (.putfield 18, 3) := by decide +kernel
theorem d_S_init_28 : decode b_S_init 28 = .ok (.aload_n 0, 1) := by decide +kernel
theorem d_S_init_29 : decode b_S_init 29 = .ok (.new 22, 3) := by decide +kernel
theorem d_S_init_32 : decode b_S_init 32 = .ok (.dup, 1) := by decide +kernel
theorem d_S_init_33 : decode b_S_init 33 = .ok (.aload_n 0, 1) := by decide +kernel
theorem d_S_init_34 : decode b_S_init 34 = .ok (.getfield 18, 3) := by decide +kernel
theorem d_S_init_37 : decode b_S_init 37 = .ok (.invokespecial 24, 3) := by decide +kernel
theorem d_S_init_40 : decode b_S_init 40 = .ok (.putfield 27, 3) := by decide +kernel
theorem d_S_init_43 : decode b_S_init 43 = .ok (.aload_n 0, 1) := by decide +kernel
theorem d_S_init_44 : decode b_S_init 44 = .ok (.iconst 0, 1) := by decide +kernel
theorem d_S_init_45 : decode b_S_init 45 = .ok (.putfield 31, 3) := by decide +kernel
theorem d_S_init_48 : decode b_S_init 48 = .ok (.aload_n 0, 1) := by decide +kernel
theorem d_S_init_49 : decode b_S_init 49 = .ok (.iconst (-1), 1) := by decide +kernel
theorem d_S_init_50 : decode b_S_init 50 = .ok (.putfield 35, 3) := by decide +kernel
theorem d_S_init_53 : decode b_S_init 53 = .ok (.return_, 1) := by decide +kernel
theorem d_T_init_0 : decode b_T_init 0 = .ok (.aload_n 0, 1) := by decide +kernel
theorem d_T_init_1 : decode b_T_init 1 = .ok (.invokespecial 3, 3) := by decide +kernel
theorem d_T_init_4 : decode b_T_init 4 = .ok (.aload_n 0, 1) := by decide +kernel
theorem d_T_init_5 : decode b_T_init 5 = .ok (.aload_n 1, 1) := by decide +kernel
theorem d_T_init_6 : decode b_T_init 6 = .ok (.putfield 9, 3) := by decide +kernel
theorem d_T_init_9 : decode b_T_init 9 = .ok (.aload_n 0, 1) := by decide +kernel
theorem d_T_init_10 : decode b_T_init 10 = .ok (.sipush 401, 3) := by decide +kernel
theorem d_T_init_13 : decode b_T_init 13 = .ok (.newarray .int, 2) := by decide +kernel
theorem d_T_init_15 : decode b_T_init 15 = .ok (.putfield 15, 3) := by decide +kernel
theorem d_T_init_18 : decode b_T_init 18 = .ok (.aload_n 0, 1) := by decide +kernel
theorem d_T_init_19 : decode b_T_init 19 = .ok (.sipush 401, 3) := by decide +kernel
theorem d_T_init_22 : decode b_T_init 22 = .ok (.newarray .int, 2) := by decide +kernel
theorem d_T_init_24 : decode b_T_init 24 = .ok (.putfield 19, 3) := by decide +kernel
theorem d_T_init_27 : decode b_T_init 27 = .ok (.aload_n 0, 1) := by decide +kernel
theorem d_T_init_28 : decode b_T_init 28 = .ok (.sipush 401, 3) := by decide +kernel
theorem d_T_init_31 : decode b_T_init 31 = .ok (.anewarray 22, 3) := by decide +kernel
theorem d_T_init_34 : decode b_T_init 34 = .ok (.putfield 24, 3) := by decide +kernel
theorem d_T_init_37 : decode b_T_init 37 = .ok (.aload_n 0, 1) := by decide +kernel
theorem d_T_init_38 : decode b_T_init 38 = .ok (.sipush 401, 3) := by decide +kernel
theorem d_T_init_41 : decode b_T_init 41 = .ok (.newarray .int, 2) := by decide +kernel
theorem d_T_init_43 : decode b_T_init 43 = .ok (.putfield 28, 3) := by decide +kernel
theorem d_T_init_46 : decode b_T_init 46 = .ok (.aload_n 0, 1) := by decide +kernel
theorem d_T_init_47 : decode b_T_init 47 = .ok (.new 31, 3) := by decide +kernel
theorem d_T_init_50 : decode b_T_init 50 = .ok (.dup, 1) := by decide +kernel
theorem d_T_init_51 : decode b_T_init 51 = .ok (.invokespecial 33, 3) := by decide +kernel
theorem d_T_init_54 : decode b_T_init 54 = .ok (.putfield 34, 3) := by decide +kernel
theorem d_T_init_57 : decode b_T_init 57 = .ok (.aload_n 0, 1) := by decide +kernel
theorem d_T_init_58 : decode b_T_init 58 = .ok (.iconst 0, 1) := by decide +kernel
theorem d_T_init_59 : decode b_T_init 59 = .ok (.putfield 38, 3) := by decide +kernel
theorem d_T_init_62 : decode b_T_init 62 = .ok (.aload_n 0, 1) := by decide +kernel
theorem d_T_init_63 : decode b_T_init 63 = .ok (.iconst 0, 1) := by decide +kernel
theorem d_T_init_64 : decode b_T_init 64 = .ok (.putfield 42, 3) := by decide +kernel
theorem d_T_init_67 : decode b_T_init 67 = .ok (.aload_n 0, 1) := by decide +kernel
theorem d_T_init_68 : decode b_T_init 68 = .ok (.iconst 0, 1) := by decide +kernel
theorem d_T_init_69 : decode b_T_init 69 = .ok (.putfield 45, 3) := by decide +kernel
theorem d_T_init_72 : decode b_T_init 72 = .ok (.return_, 1) := by decide +kernel
end
section
set_option maxHeartbeats 4000000 in
set_option maxRecDepth 100000 in
theorem c_JS_coder (l : Launch) (k : Nat → Nat) : Met l y_JS_coder (.code y_JS_coder b_JS_coder 1 (some .byte) :: TT) ({ frames := 0, cells := 0, slots := 0, locals := 0 }) (va_Pc [.ref (k 2)] (PJ k)) (vp_Si (fun r => r = 0)) 0 0 (fun _ => False) := by
  refine Met.ofW (cc := b_JS_coder) (maxL := 1) (ret := (some .byte)) (by decide) rfl ?_
  intro p e s m args below meth c s₁ B hml hv
  obtain ⟨rfl, hE⟩ := hv
  have hx := B.exec
  have hb := B.bytes
  have hr := B.returns
  have ht : ∀ w ∈ TT, w.before _ s = true := fun w hw => atoms_spec (ws := .code y_JS_coder b_JS_coder 1 (some .byte) :: TT) B.pre w (List.mem_cons_of_mem _ hw)
  have hown : s.vm.findClass "java/lang/String" = some m.cls := findClass_of_methodNamed B.named
  have hlocks := B.notSynchronized
  have hS : va_S (fun _ => False) s.heap s.heap [] := va_S.rf
  have hl := lv_entry ([.ref (k 2)]) (n := 1) (Nat.le_of_ble_eq_true rfl)
  rw [lg_entry_eq]
  generalize (lg_sl ([.ref (k 2)]) ++ List.replicate (1 - (lg_sl ([.ref (k 2)])).length) Slot.unset).toArray = ls at hl ⊢
  have hl : lv_has ls 1 [(0, .ref (k 2))] := hl
  refine va_gets hx hb hE.2.2.2.2.2.2.2.2.2.1 hS hown (ht _ k_292) (fun _ h9 => h9) d_JS_coder_0 ?_
  refine lv_if_eq (tgt := 13) hx hb d_JS_coder_3 (by decide) (fun cn => absurd cn (by decide)) (fun _ => ?_)
  refine lv_aload_n hx hb d_JS_coder_6 rfl (lv_at hl 0 rfl) ?_
  refine vk_getf hx hb (hE.2.2.2.2.2.2.2.2.1.1 0 (by decide)).2.1 hS hown (ht _ k_868) (fun _ h9 => h9) d_JS_coder_7 ?_
  refine lv_goto (tgt := 14) hx hb d_JS_coder_10 (by decide) ?_
  exact W.zret (v := 0) hx hb hr rfl (fun t het hW => ⟨_, rfl, rfl, het⟩) (fun q h9 => by cases h9) d_JS_coder_14
set_option maxHeartbeats 4000000 in
set_option maxRecDepth 100000 in
theorem c_JS_length (l : Launch) (k : Nat → Nat) : Met l y_JS_length (.code y_JS_length b_JS_length 1 (some .int) :: TT) ({ frames := 1, cells := 0, slots := 0, locals := 20 }) (va_Pc [.ref (k 2)] (PJ k)) (vp_Si (fun r => r = 3)) 0 0 (fun _ => False) := by
  refine Met.ofW (cc := b_JS_length) (maxL := 1) (ret := (some .int)) (by decide) rfl ?_
  intro p e s m args below meth c s₁ B hml hv
  obtain ⟨rfl, hE⟩ := hv
  have hx := B.exec
  have hb := B.bytes
  have hr := B.returns
  have ht : ∀ w ∈ TT, w.before _ s = true := fun w hw => atoms_spec (ws := .code y_JS_length b_JS_length 1 (some .int) :: TT) B.pre w (List.mem_cons_of_mem _ hw)
  have hown : s.vm.findClass "java/lang/String" = some m.cls := findClass_of_methodNamed B.named
  have hlocks := B.notSynchronized
  have hS : va_S (fun _ => False) s.heap s.heap [] := va_S.rf
  have hl := lv_entry ([.ref (k 2)]) (n := 1) (Nat.le_of_ble_eq_true rfl)
  rw [lg_entry_eq]
  generalize (lg_sl ([.ref (k 2)]) ++ List.replicate (1 - (lg_sl ([.ref (k 2)])).length) Slot.unset).toArray = ls at hl ⊢
  have hl : lv_has ls 1 [(0, .ref (k 2))] := hl
  refine lv_aload_n hx hb d_JS_length_0 rfl (lv_at hl 0 rfl) ?_
  refine vk_getf hx hb (hE.2.2.2.2.2.2.2.2.1.1 0 (by decide)).2.2.1 hS hown (ht _ k_867) (fun _ h9 => h9) d_JS_length_1 ?_
  refine va_tlen (v := 3) hx hb (hE.2.2.2.2.2.2.2.2.1.1 0 (by decide)).2.2.2 hS (by decide) d_JS_length_4 ?_
  refine lv_aload_n hx hb d_JS_length_5 rfl (lv_at hl 0 rfl) ?_
  refine vp_callSi (W.runV (As := []) (rest := [.int 3]) ⟨hx, hb, hml, hown, ht⟩ (c_JS_coder l k) (cwV 0 ht (g_V k_288 k_289 k_290 k_81 k_291) rfl rfl rfl (by decide +kernel) ⟨(Nat.le_of_ble_eq_true rfl), (Nat.le_of_ble_eq_true rfl)⟩) ⟨fb_J, oo_recv (hE.2.2.2.2.2.2.2.2.1.1 0 (by decide)).1 hS, pre_J hE hS⟩ rfl rfl hl.1 rfl (lv_room (Nat.le_of_ble_eq_true rfl)) d_JS_length_6 ⟨(Nat.le_of_ble_eq_true rfl), (Nat.le_of_ble_eq_true rfl)⟩) (fun r_1 hw => ?_)
  subst hw
  refine lv_ishr hx hb d_JS_length_9 ?_
  refine lv_ev (show (3 : Int32) >>> (0 &&& 31) = 3 by decide) ?_
  exact W.iret (v := 3) hx hb hr (fun t het hW => ⟨_, rfl, rfl, het⟩) (fun q h9 => by cases h9) d_JS_length_10
set_option maxHeartbeats 4000000 in
set_option maxRecDepth 100000 in
theorem c_JS_isLatin1 (l : Launch) (k : Nat → Nat) : Met l y_JS_isLatin1 (.code y_JS_isLatin1 b_JS_isLatin1 1 (some .boolean) :: TT) ({ frames := 0, cells := 0, slots := 0, locals := 0 }) (va_Pc [.ref (k 2)] (PJ k)) (vp_Si (fun r => r = 1)) 0 0 (fun _ => False) := by
  refine Met.ofW (cc := b_JS_isLatin1) (maxL := 1) (ret := (some .boolean)) (by decide) rfl ?_
  intro p e s m args below meth c s₁ B hml hv
  obtain ⟨rfl, hE⟩ := hv
  have hx := B.exec
  have hb := B.bytes
  have hr := B.returns
  have ht : ∀ w ∈ TT, w.before _ s = true := fun w hw => atoms_spec (ws := .code y_JS_isLatin1 b_JS_isLatin1 1 (some .boolean) :: TT) B.pre w (List.mem_cons_of_mem _ hw)
  have hown : s.vm.findClass "java/lang/String" = some m.cls := findClass_of_methodNamed B.named
  have hlocks := B.notSynchronized
  have hS : va_S (fun _ => False) s.heap s.heap [] := va_S.rf
  have hl := lv_entry ([.ref (k 2)]) (n := 1) (Nat.le_of_ble_eq_true rfl)
  rw [lg_entry_eq]
  generalize (lg_sl ([.ref (k 2)]) ++ List.replicate (1 - (lg_sl ([.ref (k 2)])).length) Slot.unset).toArray = ls at hl ⊢
  have hl : lv_has ls 1 [(0, .ref (k 2))] := hl
  refine va_gets hx hb hE.2.2.2.2.2.2.2.2.2.1 hS hown (ht _ k_292) (fun _ h9 => h9) d_JS_isLatin1_0 ?_
  refine lv_if_eq (tgt := 17) hx hb d_JS_isLatin1_3 (by decide) (fun cn => absurd cn (by decide)) (fun _ => ?_)
  refine lv_aload_n hx hb d_JS_isLatin1_6 rfl (lv_at hl 0 rfl) ?_
  refine vk_getf hx hb (hE.2.2.2.2.2.2.2.2.1.1 0 (by decide)).2.1 hS hown (ht _ k_868) (fun _ h9 => h9) d_JS_isLatin1_7 ?_
  refine lv_if_ne (tgt := 17) hx hb d_JS_isLatin1_10 (by decide) (fun cn => absurd (by decide) cn) (fun _ => ?_)
  refine lv_iconst (v := 1) hx hb d_JS_isLatin1_13 (by decide) ?_
  refine lv_goto (tgt := 18) hx hb d_JS_isLatin1_14 (by decide) ?_
  exact W.zret (v := 1) hx hb hr rfl (fun t het hW => ⟨_, rfl, rfl, het⟩) (fun q h9 => by cases h9) d_JS_isLatin1_18
set_option maxHeartbeats 4000000 in
set_option maxRecDepth 100000 in
theorem c_JP_checkIndex_n (l : Launch) (k : Nat → Nat) (i n : Int32) (h0 : ¬ i < 0) (h1 : i < n) : Met l y_JP_checkIndex (.code y_JP_checkIndex b_JP_checkIndex 3 (some .int) :: TT) ({ frames := 0, cells := 0, slots := 0, locals := 0 }) (va_Pc [.int i, .int n, .null] (PJ k)) (vp_Si (fun r => r = i)) 0 0 (fun _ => False) := by
  refine Met.ofW (cc := b_JP_checkIndex) (maxL := 3) (ret := (some .int)) (by decide) rfl ?_
  intro p e s m args below meth c s₁ B hml hv
  obtain ⟨rfl, hE⟩ := hv
  have hx := B.exec
  have hb := B.bytes
  have hr := B.returns
  have ht : ∀ w ∈ TT, w.before _ s = true := fun w hw => atoms_spec (ws := .code y_JP_checkIndex b_JP_checkIndex 3 (some .int) :: TT) B.pre w (List.mem_cons_of_mem _ hw)
  have hown : s.vm.findClass "jdk/internal/util/Preconditions" = some m.cls := findClass_of_methodNamed B.named
  have hlocks := B.notSynchronized
  have hS : va_S (fun _ => False) s.heap s.heap [] := va_S.rf
  have hl := lv_entry ([.int i, .int n, .null]) (n := 3) (Nat.le_of_ble_eq_true rfl)
  rw [lg_entry_eq]
  generalize (lg_sl ([.int i, .int n, .null]) ++ List.replicate (3 - (lg_sl ([.int i, .int n, .null])).length) Slot.unset).toArray = ls at hl ⊢
  have hl : lv_has ls 3 [(0, .int i), (1, .int n), (2, .null)] := hl
  refine lv_iload_n hx hb d_JP_checkIndex_0 rfl (lv_at hl 0 rfl) ?_
  refine lv_if_lt (tgt := 9) hx hb d_JP_checkIndex_1 (by decide) (fun cn => absurd cn h0) (fun _ => ?_)
  refine lv_iload_n hx hb d_JP_checkIndex_4 rfl (lv_at hl 0 rfl) ?_
  refine lv_iload_n hx hb d_JP_checkIndex_5 rfl (lv_at hl 1 rfl) ?_
  refine lv_icmp_lt (tgt := 16) hx hb d_JP_checkIndex_6 (by decide) (fun _ => ?_) (fun cn => absurd h1 cn)
  refine lv_iload_n hx hb d_JP_checkIndex_16 rfl (lv_at hl 0 rfl) ?_
  exact W.iret (v := i) hx hb hr (fun t het hW => ⟨_, rfl, rfl, het⟩) (fun q h9 => by cases h9) d_JP_checkIndex_17
set_option maxHeartbeats 4000000 in
set_option maxRecDepth 100000 in
theorem c_JP_checkIndex_r (l : Launch) (k : Nat → Nat) (i n : Int32) (zt : Nat) (h0 : ¬ i < 0) (h1 : i < n) : Met l y_JP_checkIndex (.code y_JP_checkIndex b_JP_checkIndex 3 (some .int) :: TT) ({ frames := 0, cells := 0, slots := 0, locals := 0 }) (va_Pc [.int i, .int n, .ref zt] (PJ k)) (vp_Si (fun r => r = i)) 0 0 (fun _ => False) := by
  refine Met.ofW (cc := b_JP_checkIndex) (maxL := 3) (ret := (some .int)) (by decide) rfl ?_
  intro p e s m args below meth c s₁ B hml hv
  obtain ⟨rfl, hE⟩ := hv
  have hx := B.exec
  have hb := B.bytes
  have hr := B.returns
  have ht : ∀ w ∈ TT, w.before _ s = true := fun w hw => atoms_spec (ws := .code y_JP_checkIndex b_JP_checkIndex 3 (some .int) :: TT) B.pre w (List.mem_cons_of_mem _ hw)
  have hown : s.vm.findClass "jdk/internal/util/Preconditions" = some m.cls := findClass_of_methodNamed B.named
  have hlocks := B.notSynchronized
  have hS : va_S (fun _ => False) s.heap s.heap [] := va_S.rf
  have hl := lv_entry ([.int i, .int n, .ref zt]) (n := 3) (Nat.le_of_ble_eq_true rfl)
  rw [lg_entry_eq]
  generalize (lg_sl ([.int i, .int n, .ref zt]) ++ List.replicate (3 - (lg_sl ([.int i, .int n, .ref zt])).length) Slot.unset).toArray = ls at hl ⊢
  have hl : lv_has ls 3 [(0, .int i), (1, .int n), (2, .ref zt)] := hl
  refine lv_iload_n hx hb d_JP_checkIndex_0 rfl (lv_at hl 0 rfl) ?_
  refine lv_if_lt (tgt := 9) hx hb d_JP_checkIndex_1 (by decide) (fun cn => absurd cn h0) (fun _ => ?_)
  refine lv_iload_n hx hb d_JP_checkIndex_4 rfl (lv_at hl 0 rfl) ?_
  refine lv_iload_n hx hb d_JP_checkIndex_5 rfl (lv_at hl 1 rfl) ?_
  refine lv_icmp_lt (tgt := 16) hx hb d_JP_checkIndex_6 (by decide) (fun _ => ?_) (fun cn => absurd h1 cn)
  refine lv_iload_n hx hb d_JP_checkIndex_16 rfl (lv_at hl 0 rfl) ?_
  exact W.iret (v := i) hx hb hr (fun t het hW => ⟨_, rfl, rfl, het⟩) (fun q h9 => by cases h9) d_JP_checkIndex_17
set_option maxHeartbeats 4000000 in
set_option maxRecDepth 100000 in
theorem c_JS_checkIndex (l : Launch) (k : Nat → Nat) (i n : Int32) (h0 : ¬ i < 0) (h1 : i < n) : Met l y_JS_checkIndex (.code y_JS_checkIndex b_JS_checkIndex 2 none :: TT) ({ frames := 1, cells := 0, slots := 0, locals := 22 }) (va_Pc [.int i, .int n] (PJ k)) (va_Sv (fun _ => True)) 0 0 (fun _ => False) := by
  refine Met.ofW (cc := b_JS_checkIndex) (maxL := 2) (ret := none) (by decide) rfl ?_
  intro p e s m args below meth c s₁ B hml hv
  obtain ⟨rfl, hE⟩ := hv
  have hx := B.exec
  have hb := B.bytes
  have hr := B.returns
  have ht : ∀ w ∈ TT, w.before _ s = true := fun w hw => atoms_spec (ws := .code y_JS_checkIndex b_JS_checkIndex 2 none :: TT) B.pre w (List.mem_cons_of_mem _ hw)
  have hown : s.vm.findClass "java/lang/String" = some m.cls := findClass_of_methodNamed B.named
  have hlocks := B.notSynchronized
  have hS : va_S (fun _ => False) s.heap s.heap [] := va_S.rf
  have hl := lv_entry ([.int i, .int n]) (n := 2) (Nat.le_of_ble_eq_true rfl)
  rw [lg_entry_eq]
  generalize (lg_sl ([.int i, .int n]) ++ List.replicate (2 - (lg_sl ([.int i, .int n])).length) Slot.unset).toArray = ls at hl ⊢
  have hl : lv_has ls 2 [(0, .int i), (1, .int n)] := hl
  refine lv_iload_n hx hb d_JS_checkIndex_0 rfl (lv_at hl 0 rfl) ?_
  refine lv_iload_n hx hb d_JS_checkIndex_1 rfl (lv_at hl 1 rfl) ?_
  rcases hE.2.2.2.2.2.2.2.2.2.2 with hZ | ⟨zt, hZ⟩
  · refine va_gets hx hb hZ hS hown (ht _ k_308) (fun _ h9 => h9) d_JS_checkIndex_2 ?_
    refine vp_callSi (W.runS (As := [.int i, .int n, .null]) (rest := []) ⟨hx, hb, hml, hown, ht⟩ (c_JP_checkIndex_n l k i n h0 h1) (va_cwS 3 ht (g_S k_310 k_311 k_83 k_312) rfl rfl rfl (by decide +kernel) ⟨(Nat.le_of_ble_eq_true rfl), (Nat.le_of_ble_eq_true rfl)⟩) ⟨fb_J, pre_J hE hS⟩ rfl rfl hl.1 rfl (lv_room (Nat.le_of_ble_eq_true rfl)) d_JS_checkIndex_5 ⟨(Nat.le_of_ble_eq_true rfl), (Nat.le_of_ble_eq_true rfl)⟩) (fun r_1 hw => ?_)
    subst hw
    refine lv_pop hx hb d_JS_checkIndex_8 rfl ?_
    exact W.vret hx hb hr (fun t het hW => ⟨rfl, trivial, het⟩) (fun q h9 => by cases h9) d_JS_checkIndex_9
  · refine va_gets hx hb hZ hS hown (ht _ k_308) (fun _ h9 => h9) d_JS_checkIndex_2 ?_
    refine vp_callSi (W.runS (As := [.int i, .int n, .ref zt]) (rest := []) ⟨hx, hb, hml, hown, ht⟩ (c_JP_checkIndex_r l k i n zt h0 h1) (va_cwS 3 ht (g_S k_310 k_311 k_83 k_312) rfl rfl rfl (by decide +kernel) ⟨(Nat.le_of_ble_eq_true rfl), (Nat.le_of_ble_eq_true rfl)⟩) ⟨fb_J, pre_J hE hS⟩ rfl rfl hl.1 rfl (lv_room (Nat.le_of_ble_eq_true rfl)) d_JS_checkIndex_5 ⟨(Nat.le_of_ble_eq_true rfl), (Nat.le_of_ble_eq_true rfl)⟩) (fun r_2 hw => ?_)
    subst hw
    refine lv_pop hx hb d_JS_checkIndex_8 rfl ?_
    exact W.vret hx hb hr (fun t het hW => ⟨rfl, trivial, het⟩) (fun q h9 => by cases h9) d_JS_checkIndex_9
set_option maxHeartbeats 4000000 in
set_option maxRecDepth 100000 in
theorem c_JL_charAt_0 (l : Launch) (k : Nat → Nat) : Met l y_JL_charAt (.code y_JL_charAt b_JL_charAt 2 (some .char) :: TT) ({ frames := 2, cells := 0, slots := 0, locals := 43 }) (va_Pc [.ref (k 3), .int 0] (PJ k)) (vp_Si (fun r => r = 113)) 0 0 (fun _ => False) := by
  refine Met.ofW (cc := b_JL_charAt) (maxL := 2) (ret := (some .char)) (by decide) rfl ?_
  intro p e s m args below meth c s₁ B hml hv
  obtain ⟨rfl, hE⟩ := hv
  have hx := B.exec
  have hb := B.bytes
  have hr := B.returns
  have ht : ∀ w ∈ TT, w.before _ s = true := fun w hw => atoms_spec (ws := .code y_JL_charAt b_JL_charAt 2 (some .char) :: TT) B.pre w (List.mem_cons_of_mem _ hw)
  have hown : s.vm.findClass "java/lang/StringLatin1" = some m.cls := findClass_of_methodNamed B.named
  have hlocks := B.notSynchronized
  have hS : va_S (fun _ => False) s.heap s.heap [] := va_S.rf
  have hl := lv_entry ([.ref (k 3), .int 0]) (n := 2) (Nat.le_of_ble_eq_true rfl)
  rw [lg_entry_eq]
  generalize (lg_sl ([.ref (k 3), .int 0]) ++ List.replicate (2 - (lg_sl ([.ref (k 3), .int 0])).length) Slot.unset).toArray = ls at hl ⊢
  have hl : lv_has ls 2 [(0, .ref (k 3)), (1, .int 0)] := hl
  refine lv_iload_n hx hb d_JL_charAt_0 rfl (lv_at hl 1 rfl) ?_
  refine lv_aload_n hx hb d_JL_charAt_1 rfl (lv_at hl 0 rfl) ?_
  refine va_tlen (v := 3) hx hb (hE.2.2.2.2.2.2.2.2.1.1 0 (by decide)).2.2.2 hS (by decide) d_JL_charAt_2 ?_
  refine va_csv (W.runS (As := [.int 0, .int 3]) (rest := []) ⟨hx, hb, hml, hown, ht⟩ (c_JS_checkIndex l k 0 3 (by decide) (by decide)) (va_cwS 2 ht (g_S k_305 k_306 k_81 k_307) rfl rfl rfl (by decide +kernel) ⟨(Nat.le_of_ble_eq_true rfl), (Nat.le_of_ble_eq_true rfl)⟩) ⟨fb_J, pre_J hE hS⟩ rfl rfl hl.1 rfl (lv_room (Nat.le_of_ble_eq_true rfl)) d_JL_charAt_3 ⟨(Nat.le_of_ble_eq_true rfl), (Nat.le_of_ble_eq_true rfl)⟩) (fun _ => ?_)
  refine lv_aload_n hx hb d_JL_charAt_6 rfl (lv_at hl 0 rfl) ?_
  refine lv_iload_n hx hb d_JL_charAt_7 rfl (lv_at hl 1 rfl) ?_
  refine va_tb hx hb (hE.2.2.2.2.2.2.2.2.1.1 0 (by decide)).2.2.2 hS (i := 0) (v := .int 113) (by unfold vp_in; decide) (by decide) d_JL_charAt_8 ?_
  refine lv_sipush (v := 255) hx hb d_JL_charAt_9 (by decide) ?_
  refine lv_iand hx hb d_JL_charAt_12 ?_
  refine lv_ev (show (113 : Int32) &&& 255 = 113 by decide) ?_
  refine lv_i2c (v := 113) hx hb d_JL_charAt_13 (by decide) ?_
  exact W.zret (v := 113) hx hb hr rfl (fun t het hW => ⟨_, rfl, rfl, het⟩) (fun q h9 => by cases h9) d_JL_charAt_14
set_option maxHeartbeats 4000000 in
set_option maxRecDepth 100000 in
theorem c_JL_charAt_1 (l : Launch) (k : Nat → Nat) : Met l y_JL_charAt (.code y_JL_charAt b_JL_charAt 2 (some .char) :: TT) ({ frames := 2, cells := 0, slots := 0, locals := 43 }) (va_Pc [.ref (k 3), .int 1] (PJ k)) (vp_Si (fun r => r = 99)) 0 0 (fun _ => False) := by
  refine Met.ofW (cc := b_JL_charAt) (maxL := 2) (ret := (some .char)) (by decide) rfl ?_
  intro p e s m args below meth c s₁ B hml hv
  obtain ⟨rfl, hE⟩ := hv
  have hx := B.exec
  have hb := B.bytes
  have hr := B.returns
  have ht : ∀ w ∈ TT, w.before _ s = true := fun w hw => atoms_spec (ws := .code y_JL_charAt b_JL_charAt 2 (some .char) :: TT) B.pre w (List.mem_cons_of_mem _ hw)
  have hown : s.vm.findClass "java/lang/StringLatin1" = some m.cls := findClass_of_methodNamed B.named
  have hlocks := B.notSynchronized
  have hS : va_S (fun _ => False) s.heap s.heap [] := va_S.rf
  have hl := lv_entry ([.ref (k 3), .int 1]) (n := 2) (Nat.le_of_ble_eq_true rfl)
  rw [lg_entry_eq]
  generalize (lg_sl ([.ref (k 3), .int 1]) ++ List.replicate (2 - (lg_sl ([.ref (k 3), .int 1])).length) Slot.unset).toArray = ls at hl ⊢
  have hl : lv_has ls 2 [(0, .ref (k 3)), (1, .int 1)] := hl
  refine lv_iload_n hx hb d_JL_charAt_0 rfl (lv_at hl 1 rfl) ?_
  refine lv_aload_n hx hb d_JL_charAt_1 rfl (lv_at hl 0 rfl) ?_
  refine va_tlen (v := 3) hx hb (hE.2.2.2.2.2.2.2.2.1.1 0 (by decide)).2.2.2 hS (by decide) d_JL_charAt_2 ?_
  refine va_csv (W.runS (As := [.int 1, .int 3]) (rest := []) ⟨hx, hb, hml, hown, ht⟩ (c_JS_checkIndex l k 1 3 (by decide) (by decide)) (va_cwS 2 ht (g_S k_305 k_306 k_81 k_307) rfl rfl rfl (by decide +kernel) ⟨(Nat.le_of_ble_eq_true rfl), (Nat.le_of_ble_eq_true rfl)⟩) ⟨fb_J, pre_J hE hS⟩ rfl rfl hl.1 rfl (lv_room (Nat.le_of_ble_eq_true rfl)) d_JL_charAt_3 ⟨(Nat.le_of_ble_eq_true rfl), (Nat.le_of_ble_eq_true rfl)⟩) (fun _ => ?_)
  refine lv_aload_n hx hb d_JL_charAt_6 rfl (lv_at hl 0 rfl) ?_
  refine lv_iload_n hx hb d_JL_charAt_7 rfl (lv_at hl 1 rfl) ?_
  refine va_tb hx hb (hE.2.2.2.2.2.2.2.2.1.1 0 (by decide)).2.2.2 hS (i := 1) (v := .int 99) (by unfold vp_in; decide) (by decide) d_JL_charAt_8 ?_
  refine lv_sipush (v := 255) hx hb d_JL_charAt_9 (by decide) ?_
  refine lv_iand hx hb d_JL_charAt_12 ?_
  refine lv_ev (show (99 : Int32) &&& 255 = 99 by decide) ?_
  refine lv_i2c (v := 99) hx hb d_JL_charAt_13 (by decide) ?_
  exact W.zret (v := 99) hx hb hr rfl (fun t het hW => ⟨_, rfl, rfl, het⟩) (fun q h9 => by cases h9) d_JL_charAt_14
set_option maxHeartbeats 4000000 in
set_option maxRecDepth 100000 in
theorem c_JL_charAt_2 (l : Launch) (k : Nat → Nat) : Met l y_JL_charAt (.code y_JL_charAt b_JL_charAt 2 (some .char) :: TT) ({ frames := 2, cells := 0, slots := 0, locals := 43 }) (va_Pc [.ref (k 3), .int 2] (PJ k)) (vp_Si (fun r => r = 46)) 0 0 (fun _ => False) := by
  refine Met.ofW (cc := b_JL_charAt) (maxL := 2) (ret := (some .char)) (by decide) rfl ?_
  intro p e s m args below meth c s₁ B hml hv
  obtain ⟨rfl, hE⟩ := hv
  have hx := B.exec
  have hb := B.bytes
  have hr := B.returns
  have ht : ∀ w ∈ TT, w.before _ s = true := fun w hw => atoms_spec (ws := .code y_JL_charAt b_JL_charAt 2 (some .char) :: TT) B.pre w (List.mem_cons_of_mem _ hw)
  have hown : s.vm.findClass "java/lang/StringLatin1" = some m.cls := findClass_of_methodNamed B.named
  have hlocks := B.notSynchronized
  have hS : va_S (fun _ => False) s.heap s.heap [] := va_S.rf
  have hl := lv_entry ([.ref (k 3), .int 2]) (n := 2) (Nat.le_of_ble_eq_true rfl)
  rw [lg_entry_eq]
  generalize (lg_sl ([.ref (k 3), .int 2]) ++ List.replicate (2 - (lg_sl ([.ref (k 3), .int 2])).length) Slot.unset).toArray = ls at hl ⊢
  have hl : lv_has ls 2 [(0, .ref (k 3)), (1, .int 2)] := hl
  refine lv_iload_n hx hb d_JL_charAt_0 rfl (lv_at hl 1 rfl) ?_
  refine lv_aload_n hx hb d_JL_charAt_1 rfl (lv_at hl 0 rfl) ?_
  refine va_tlen (v := 3) hx hb (hE.2.2.2.2.2.2.2.2.1.1 0 (by decide)).2.2.2 hS (by decide) d_JL_charAt_2 ?_
  refine va_csv (W.runS (As := [.int 2, .int 3]) (rest := []) ⟨hx, hb, hml, hown, ht⟩ (c_JS_checkIndex l k 2 3 (by decide) (by decide)) (va_cwS 2 ht (g_S k_305 k_306 k_81 k_307) rfl rfl rfl (by decide +kernel) ⟨(Nat.le_of_ble_eq_true rfl), (Nat.le_of_ble_eq_true rfl)⟩) ⟨fb_J, pre_J hE hS⟩ rfl rfl hl.1 rfl (lv_room (Nat.le_of_ble_eq_true rfl)) d_JL_charAt_3 ⟨(Nat.le_of_ble_eq_true rfl), (Nat.le_of_ble_eq_true rfl)⟩) (fun _ => ?_)
  refine lv_aload_n hx hb d_JL_charAt_6 rfl (lv_at hl 0 rfl) ?_
  refine lv_iload_n hx hb d_JL_charAt_7 rfl (lv_at hl 1 rfl) ?_
  refine va_tb hx hb (hE.2.2.2.2.2.2.2.2.1.1 0 (by decide)).2.2.2 hS (i := 2) (v := .int 46) (by unfold vp_in; decide) (by decide) d_JL_charAt_8 ?_
  refine lv_sipush (v := 255) hx hb d_JL_charAt_9 (by decide) ?_
  refine lv_iand hx hb d_JL_charAt_12 ?_
  refine lv_ev (show (46 : Int32) &&& 255 = 46 by decide) ?_
  refine lv_i2c (v := 46) hx hb d_JL_charAt_13 (by decide) ?_
  exact W.zret (v := 46) hx hb hr rfl (fun t het hW => ⟨_, rfl, rfl, het⟩) (fun q h9 => by cases h9) d_JL_charAt_14
set_option maxHeartbeats 4000000 in
set_option maxRecDepth 100000 in
theorem c_JS_charAt_0 (l : Launch) (k : Nat → Nat) : Met l y_JS_charAt (.code y_JS_charAt b_JS_charAt 2 (some .char) :: TT) ({ frames := 3, cells := 0, slots := 0, locals := 64 }) (va_Pc [.ref (k 2), .int 0] (PJ k)) (vp_Si (fun r => r = 113)) 0 0 (fun _ => False) := by
  refine Met.ofW (cc := b_JS_charAt) (maxL := 2) (ret := (some .char)) (by decide) rfl ?_
  intro p e s m args below meth c s₁ B hml hv
  obtain ⟨rfl, hE⟩ := hv
  have hx := B.exec
  have hb := B.bytes
  have hr := B.returns
  have ht : ∀ w ∈ TT, w.before _ s = true := fun w hw => atoms_spec (ws := .code y_JS_charAt b_JS_charAt 2 (some .char) :: TT) B.pre w (List.mem_cons_of_mem _ hw)
  have hown : s.vm.findClass "java/lang/String" = some m.cls := findClass_of_methodNamed B.named
  have hlocks := B.notSynchronized
  have hS : va_S (fun _ => False) s.heap s.heap [] := va_S.rf
  have hl := lv_entry ([.ref (k 2), .int 0]) (n := 2) (Nat.le_of_ble_eq_true rfl)
  rw [lg_entry_eq]
  generalize (lg_sl ([.ref (k 2), .int 0]) ++ List.replicate (2 - (lg_sl ([.ref (k 2), .int 0])).length) Slot.unset).toArray = ls at hl ⊢
  have hl : lv_has ls 2 [(0, .ref (k 2)), (1, .int 0)] := hl
  refine lv_aload_n hx hb d_JS_charAt_0 rfl (lv_at hl 0 rfl) ?_
  refine vp_callSi (W.runV (As := []) (rest := []) ⟨hx, hb, hml, hown, ht⟩ (c_JS_isLatin1 l k) (cwV 0 ht (g_V k_298 k_299 k_300 k_81 k_301) rfl rfl rfl (by decide +kernel) ⟨(Nat.le_of_ble_eq_true rfl), (Nat.le_of_ble_eq_true rfl)⟩) ⟨fb_J, oo_recv (hE.2.2.2.2.2.2.2.2.1.1 0 (by decide)).1 hS, pre_J hE hS⟩ rfl rfl hl.1 rfl (lv_room (Nat.le_of_ble_eq_true rfl)) d_JS_charAt_1 ⟨(Nat.le_of_ble_eq_true rfl), (Nat.le_of_ble_eq_true rfl)⟩) (fun r_1 hw => ?_)
  subst hw
  refine lv_if_eq (tgt := 16) hx hb d_JS_charAt_4 (by decide) (fun cn => absurd cn (by decide)) (fun _ => ?_)
  refine lv_aload_n hx hb d_JS_charAt_7 rfl (lv_at hl 0 rfl) ?_
  refine vk_getf hx hb (hE.2.2.2.2.2.2.2.2.1.1 0 (by decide)).2.2.1 hS hown (ht _ k_867) (fun _ h9 => h9) d_JS_charAt_8 ?_
  refine lv_iload_n hx hb d_JS_charAt_11 rfl (lv_at hl 1 rfl) ?_
  refine vp_callSi (W.runS (As := [.ref (k 3), .int 0]) (rest := []) ⟨hx, hb, hml, hown, ht⟩ (c_JL_charAt_0 l k) (va_cwS 2 ht (g_S k_302 k_303 k_82 k_304) rfl rfl rfl (by decide +kernel) ⟨(Nat.le_of_ble_eq_true rfl), (Nat.le_of_ble_eq_true rfl)⟩) ⟨fb_J, pre_J hE hS⟩ rfl rfl hl.1 rfl (lv_room (Nat.le_of_ble_eq_true rfl)) d_JS_charAt_12 ⟨(Nat.le_of_ble_eq_true rfl), (Nat.le_of_ble_eq_true rfl)⟩) (fun r_2 hw => ?_)
  subst hw
  exact W.zret (v := 113) hx hb hr rfl (fun t het hW => ⟨_, rfl, rfl, het⟩) (fun q h9 => by cases h9) d_JS_charAt_15
set_option maxHeartbeats 4000000 in
set_option maxRecDepth 100000 in
theorem c_JS_charAt_1 (l : Launch) (k : Nat → Nat) : Met l y_JS_charAt (.code y_JS_charAt b_JS_charAt 2 (some .char) :: TT) ({ frames := 3, cells := 0, slots := 0, locals := 64 }) (va_Pc [.ref (k 2), .int 1] (PJ k)) (vp_Si (fun r => r = 99)) 0 0 (fun _ => False) := by
  refine Met.ofW (cc := b_JS_charAt) (maxL := 2) (ret := (some .char)) (by decide) rfl ?_
  intro p e s m args below meth c s₁ B hml hv
  obtain ⟨rfl, hE⟩ := hv
  have hx := B.exec
  have hb := B.bytes
  have hr := B.returns
  have ht : ∀ w ∈ TT, w.before _ s = true := fun w hw => atoms_spec (ws := .code y_JS_charAt b_JS_charAt 2 (some .char) :: TT) B.pre w (List.mem_cons_of_mem _ hw)
  have hown : s.vm.findClass "java/lang/String" = some m.cls := findClass_of_methodNamed B.named
  have hlocks := B.notSynchronized
  have hS : va_S (fun _ => False) s.heap s.heap [] := va_S.rf
  have hl := lv_entry ([.ref (k 2), .int 1]) (n := 2) (Nat.le_of_ble_eq_true rfl)
  rw [lg_entry_eq]
  generalize (lg_sl ([.ref (k 2), .int 1]) ++ List.replicate (2 - (lg_sl ([.ref (k 2), .int 1])).length) Slot.unset).toArray = ls at hl ⊢
  have hl : lv_has ls 2 [(0, .ref (k 2)), (1, .int 1)] := hl
  refine lv_aload_n hx hb d_JS_charAt_0 rfl (lv_at hl 0 rfl) ?_
  refine vp_callSi (W.runV (As := []) (rest := []) ⟨hx, hb, hml, hown, ht⟩ (c_JS_isLatin1 l k) (cwV 0 ht (g_V k_298 k_299 k_300 k_81 k_301) rfl rfl rfl (by decide +kernel) ⟨(Nat.le_of_ble_eq_true rfl), (Nat.le_of_ble_eq_true rfl)⟩) ⟨fb_J, oo_recv (hE.2.2.2.2.2.2.2.2.1.1 0 (by decide)).1 hS, pre_J hE hS⟩ rfl rfl hl.1 rfl (lv_room (Nat.le_of_ble_eq_true rfl)) d_JS_charAt_1 ⟨(Nat.le_of_ble_eq_true rfl), (Nat.le_of_ble_eq_true rfl)⟩) (fun r_1 hw => ?_)
  subst hw
  refine lv_if_eq (tgt := 16) hx hb d_JS_charAt_4 (by decide) (fun cn => absurd cn (by decide)) (fun _ => ?_)
  refine lv_aload_n hx hb d_JS_charAt_7 rfl (lv_at hl 0 rfl) ?_
  refine vk_getf hx hb (hE.2.2.2.2.2.2.2.2.1.1 0 (by decide)).2.2.1 hS hown (ht _ k_867) (fun _ h9 => h9) d_JS_charAt_8 ?_
  refine lv_iload_n hx hb d_JS_charAt_11 rfl (lv_at hl 1 rfl) ?_
  refine vp_callSi (W.runS (As := [.ref (k 3), .int 1]) (rest := []) ⟨hx, hb, hml, hown, ht⟩ (c_JL_charAt_1 l k) (va_cwS 2 ht (g_S k_302 k_303 k_82 k_304) rfl rfl rfl (by decide +kernel) ⟨(Nat.le_of_ble_eq_true rfl), (Nat.le_of_ble_eq_true rfl)⟩) ⟨fb_J, pre_J hE hS⟩ rfl rfl hl.1 rfl (lv_room (Nat.le_of_ble_eq_true rfl)) d_JS_charAt_12 ⟨(Nat.le_of_ble_eq_true rfl), (Nat.le_of_ble_eq_true rfl)⟩) (fun r_2 hw => ?_)
  subst hw
  exact W.zret (v := 99) hx hb hr rfl (fun t het hW => ⟨_, rfl, rfl, het⟩) (fun q h9 => by cases h9) d_JS_charAt_15
set_option maxHeartbeats 4000000 in
set_option maxRecDepth 100000 in
theorem c_JS_charAt_2 (l : Launch) (k : Nat → Nat) : Met l y_JS_charAt (.code y_JS_charAt b_JS_charAt 2 (some .char) :: TT) ({ frames := 3, cells := 0, slots := 0, locals := 64 }) (va_Pc [.ref (k 2), .int 2] (PJ k)) (vp_Si (fun r => r = 46)) 0 0 (fun _ => False) := by
  refine Met.ofW (cc := b_JS_charAt) (maxL := 2) (ret := (some .char)) (by decide) rfl ?_
  intro p e s m args below meth c s₁ B hml hv
  obtain ⟨rfl, hE⟩ := hv
  have hx := B.exec
  have hb := B.bytes
  have hr := B.returns
  have ht : ∀ w ∈ TT, w.before _ s = true := fun w hw => atoms_spec (ws := .code y_JS_charAt b_JS_charAt 2 (some .char) :: TT) B.pre w (List.mem_cons_of_mem _ hw)
  have hown : s.vm.findClass "java/lang/String" = some m.cls := findClass_of_methodNamed B.named
  have hlocks := B.notSynchronized
  have hS : va_S (fun _ => False) s.heap s.heap [] := va_S.rf
  have hl := lv_entry ([.ref (k 2), .int 2]) (n := 2) (Nat.le_of_ble_eq_true rfl)
  rw [lg_entry_eq]
  generalize (lg_sl ([.ref (k 2), .int 2]) ++ List.replicate (2 - (lg_sl ([.ref (k 2), .int 2])).length) Slot.unset).toArray = ls at hl ⊢
  have hl : lv_has ls 2 [(0, .ref (k 2)), (1, .int 2)] := hl
  refine lv_aload_n hx hb d_JS_charAt_0 rfl (lv_at hl 0 rfl) ?_
  refine vp_callSi (W.runV (As := []) (rest := []) ⟨hx, hb, hml, hown, ht⟩ (c_JS_isLatin1 l k) (cwV 0 ht (g_V k_298 k_299 k_300 k_81 k_301) rfl rfl rfl (by decide +kernel) ⟨(Nat.le_of_ble_eq_true rfl), (Nat.le_of_ble_eq_true rfl)⟩) ⟨fb_J, oo_recv (hE.2.2.2.2.2.2.2.2.1.1 0 (by decide)).1 hS, pre_J hE hS⟩ rfl rfl hl.1 rfl (lv_room (Nat.le_of_ble_eq_true rfl)) d_JS_charAt_1 ⟨(Nat.le_of_ble_eq_true rfl), (Nat.le_of_ble_eq_true rfl)⟩) (fun r_1 hw => ?_)
  subst hw
  refine lv_if_eq (tgt := 16) hx hb d_JS_charAt_4 (by decide) (fun cn => absurd cn (by decide)) (fun _ => ?_)
  refine lv_aload_n hx hb d_JS_charAt_7 rfl (lv_at hl 0 rfl) ?_
  refine vk_getf hx hb (hE.2.2.2.2.2.2.2.2.1.1 0 (by decide)).2.2.1 hS hown (ht _ k_867) (fun _ h9 => h9) d_JS_charAt_8 ?_
  refine lv_iload_n hx hb d_JS_charAt_11 rfl (lv_at hl 1 rfl) ?_
  refine vp_callSi (W.runS (As := [.ref (k 3), .int 2]) (rest := []) ⟨hx, hb, hml, hown, ht⟩ (c_JL_charAt_2 l k) (va_cwS 2 ht (g_S k_302 k_303 k_82 k_304) rfl rfl rfl (by decide +kernel) ⟨(Nat.le_of_ble_eq_true rfl), (Nat.le_of_ble_eq_true rfl)⟩) ⟨fb_J, pre_J hE hS⟩ rfl rfl hl.1 rfl (lv_room (Nat.le_of_ble_eq_true rfl)) d_JS_charAt_12 ⟨(Nat.le_of_ble_eq_true rfl), (Nat.le_of_ble_eq_true rfl)⟩) (fun r_2 hw => ?_)
  subst hw
  exact W.zret (v := 46) hx hb hr rfl (fun t het hW => ⟨_, rfl, rfl, het⟩) (fun q h9 => by cases h9) d_JS_charAt_15
end
section
set_option maxHeartbeats 4000000 in
set_option maxRecDepth 100000 in
theorem c_Q_init (l : Launch) (dC : Nat → ClassId) (dI : Nat → Nat → Nat) (k : Nat → Nat) (o : Nat) (sz : Nat) : Met l y_Q_init (.code y_Q_init b_Q_init 1 none :: TT) ({ frames := 1, cells := 1, slots := 200, locals := 12 }) (va_Pc [.ref o] (PX dC dI k [] [(o, .inr (2, [.null, .int 0]))] sz)) (va_Qv (fun u : (Nat → Nat) × (Nat → ClassId) => True) (fun u t => BX dC dI [((u.2 0), .byte)] (va_A [(o, .inr (2, [.null, .int 0]))] sz) [(o, .inr (2, [.ref (u.1 0), .int 0])), ((u.1 0), .inl ((u.2 0), 200, .inl (fun _ => 0)))] t) (va_A [(o, .inr (2, [.null, .int 0]))] sz)) 1 200 (va_A [(o, .inr (2, [.null, .int 0]))] sz) := by
  refine Met.ofW (cc := b_Q_init) (maxL := 1) (ret := none) (by decide) rfl ?_
  intro p e s m args below meth c s₁ B hml hv
  obtain ⟨rfl, hsz, hE, hP, hK, hD0⟩ := hv
  have hx := B.exec
  have hb := B.bytes
  have hr := B.returns
  have ht : ∀ w ∈ TT, w.before _ s = true := fun w hw => atoms_spec (ws := .code y_Q_init b_Q_init 1 none :: TT) B.pre w (List.mem_cons_of_mem _ hw)
  have hown : s.vm.findClass "SieveDesk$Quoted" = some m.cls := findClass_of_methodNamed B.named
  have hlocks := B.notSynchronized
  have hin : meth.name = "<init>" := (name_of_methodNamed B.named B.method).1
  subst hsz
  have hD := hD0.self (sz := s.heap.size)
  generalize hAe : va_A [(o, .inr (2, [.null, .int 0]))] s.heap.size = A at hE hD ⊢
  have hA : ∀ q : Nat, s.heap.size ≤ q → A q := fun q h9 => by rw [← hAe]; exact Or.inr h9
  have hS : va_S A s.heap s.heap [] := va_S.rf
  have hl := lv_entry ([.ref o]) (n := 1) (Nat.le_of_ble_eq_true rfl)
  rw [lg_entry_eq]
  generalize (lg_sl ([.ref o]) ++ List.replicate (1 - (lg_sl ([.ref o])).length) Slot.unset).toArray = ls at hl ⊢
  have hl : lv_has ls 1 [(0, .ref o)] := hl
  refine lv_aload_n hx hb d_Q_init_0 rfl (lv_at hl 0 rfl) ?_
  refine W.objInit hx hb hown (ht _ k_109) (ht _ k_94) (ht _ k_95) rfl (by rw [hml]; exact hl.1) rfl d_Q_init_1 (Nat.le_of_ble_eq_true rfl) (Nat.le_of_ble_eq_true rfl) ?_
  refine W.eq (g2 := F0 m 4 ls []) rfl ?_
  refine lv_aload_n hx hb d_Q_init_4 rfl (lv_at hl 0 rfl) ?_
  refine lv_sipush (v := 200) hx hb d_Q_init_5 (by decide) ?_
  refine va_newa (atype := .byte) (ty := .byte) (N' := 200) (a0 := (200, .inl (fun _ => 0))) hx hb (ht _ k_117) rfl hK hP hD hS hA (fun _ => rfl) (by decide) (by decide) (by decide) (Nat.le_of_ble_eq_true rfl) (Nat.le_of_ble_eq_true rfl) d_Q_init_8 (fun q_1 g_2 H hK hP hD hS => ?_)
  have hP : va_P (dC, dI) cls [(o, .inr (2, [.null, .int 0])), (q_1, .inl (g_2, 200, .inl (fun _ => 0)))] H := hP
  have hD : va_D A [(o, .inr (2, [.null, .int 0])), (q_1, .inl (g_2, 200, .inl (fun _ => 0)))] := hD
  have hK : va_K (dC, dI) cls [(g_2, .byte)] s := hK
  refine W.widen (k := 1) (n := 200) (by decide) (by decide) ?_
  refine va_putF (D := (dC, dI)) (ci := 2) (v := .ref q_1) (ty := .array .byte) (C := "SieveDesk$Quoted") (T := F_Q) (N := 2) hx hb ht i_Q ty_Q ty_Q_ok n_Q hown hK hP hD hS 0 rfl rfl 0 (by decide) (ht _ k_110) (fun _ h9 => h9) rfl hin rfl (ty_Q_ok 0 (by decide)) rfl rfl (Nat.le_of_ble_eq_true rfl) d_Q_init_10 (fun H locs hP hD hS => ?_)
  have hP : va_P (dC, dI) cls [(o, .inr (2, [.ref q_1, .int 0])), (q_1, .inl (g_2, 200, .inl (fun _ => 0)))] H := hP
  have hD : va_D A [(o, .inr (2, [.ref q_1, .int 0])), (q_1, .inl (g_2, 200, .inl (fun _ => 0)))] := hD
  refine lv_aload_n hx hb d_Q_init_13 rfl (lv_at hl 0 rfl) ?_
  refine lv_iconst (v := 0) hx hb d_Q_init_14 (by decide) ?_
  refine va_put (D := (dC, dI)) (ci := 2) (v := .int 0) (ty := .int) (C := "SieveDesk$Quoted") (T := F_Q) (N := 2) hx hb ht i_Q ty_Q ty_Q_ok n_Q hown hK hP hD hS 0 rfl rfl 1 (by decide) (ht _ k_111) (fun _ h9 => h9) rfl (ty_Q_ok 1 (by decide)) rfl rfl (Nat.le_of_ble_eq_true rfl) d_Q_init_15 (fun H locs hP hD hS => ?_)
  have hP : va_P (dC, dI) cls [(o, .inr (2, [.ref q_1, .int 0])), (q_1, .inl (g_2, 200, .inl (fun _ => 0)))] H := hP
  have hD : va_D A [(o, .inr (2, [.ref q_1, .int 0])), (q_1, .inl (g_2, 200, .inl (fun _ => 0)))] := hD
  exact W.vret hx hb hr (fun t het hW => ⟨⟨((fun i => match i with | 0 => q_1 | _ => 0), (fun i => match i with | _ => g_2)), rfl, trivial, by rw [het]; exact hP, va_K.moved hW.alike hK, hD⟩, hS.F het⟩) hS.2.2 d_Q_init_18
set_option maxHeartbeats 4000000 in
set_option maxRecDepth 100000 in
theorem c_T_init (l : Launch) (dC : Nat → ClassId) (dI : Nat → Nat → Nat) (k : Nat → Nat) (o sp : Nat) (sz : Nat) : Met l y_T_init (.code y_T_init b_T_init 2 none :: TT) ({ frames := 2, cells := 6, slots := 1806, locals := 32 }) (va_Pc [.ref o, .ref sp] (PX dC dI k [] [(o, .inr (1, [.null, .null, .null, .null, .null, .null, .int 0, .int 0, .int 0]))] sz)) (va_Qv (fun u : (Nat → Nat) × (Nat → ClassId) => True) (fun u t => BX dC dI [((u.2 0), .int), ((u.2 1), .int), ((u.2 2), .object "SieveDesk$Word"), ((u.2 3), .int), ((u.2 4), .byte)] (va_A [(o, .inr (1, [.null, .null, .null, .null, .null, .null, .int 0, .int 0, .int 0]))] sz) [(o, .inr (1, [.ref sp, .ref (u.1 0), .ref (u.1 1), .ref (u.1 2), .ref (u.1 3), .ref (u.1 4), .int 0, .int 0, .int 0])), ((u.1 0), .inl ((u.2 0), 401, .inl (fun _ => 0))), ((u.1 1), .inl ((u.2 1), 401, .inl (fun _ => 0))), ((u.1 2), .inl ((u.2 2), 401, .inr (.inr (.inr (.inr (fun _ => none)))))), ((u.1 3), .inl ((u.2 3), 401, .inl (fun _ => 0))), ((u.1 4), .inr (2, [.ref (u.1 5), .int 0])), ((u.1 5), .inl ((u.2 4), 200, .inl (fun _ => 0)))] t) (va_A [(o, .inr (1, [.null, .null, .null, .null, .null, .null, .int 0, .int 0, .int 0]))] sz)) 6 1806 (va_A [(o, .inr (1, [.null, .null, .null, .null, .null, .null, .int 0, .int 0, .int 0]))] sz) := by
  refine Met.ofW (cc := b_T_init) (maxL := 2) (ret := none) (by decide) rfl ?_
  intro p e s m args below meth c s₁ B hml hv
  obtain ⟨rfl, hsz, hE, hP, hK, hD0⟩ := hv
  have hx := B.exec
  have hb := B.bytes
  have hr := B.returns
  have ht : ∀ w ∈ TT, w.before _ s = true := fun w hw => atoms_spec (ws := .code y_T_init b_T_init 2 none :: TT) B.pre w (List.mem_cons_of_mem _ hw)
  have hown : s.vm.findClass "SieveDesk$Tokens" = some m.cls := findClass_of_methodNamed B.named
  have hlocks := B.notSynchronized
  have hin : meth.name = "<init>" := (name_of_methodNamed B.named B.method).1
  subst hsz
  have hD := hD0.self (sz := s.heap.size)
  generalize hAe : va_A [(o, .inr (1, [.null, .null, .null, .null, .null, .null, .int 0, .int 0, .int 0]))] s.heap.size = A at hE hD ⊢
  have hA : ∀ q : Nat, s.heap.size ≤ q → A q := fun q h9 => by rw [← hAe]; exact Or.inr h9
  have hS : va_S A s.heap s.heap [] := va_S.rf
  have hl := lv_entry ([.ref o, .ref sp]) (n := 2) (Nat.le_of_ble_eq_true rfl)
  rw [lg_entry_eq]
  generalize (lg_sl ([.ref o, .ref sp]) ++ List.replicate (2 - (lg_sl ([.ref o, .ref sp])).length) Slot.unset).toArray = ls at hl ⊢
  have hl : lv_has ls 2 [(0, .ref o), (1, .ref sp)] := hl
  refine lv_aload_n hx hb d_T_init_0 rfl (lv_at hl 0 rfl) ?_
  refine W.objInit hx hb hown (ht _ k_101) (ht _ k_94) (ht _ k_95) rfl (by rw [hml]; exact hl.1) rfl d_T_init_1 (Nat.le_of_ble_eq_true rfl) (Nat.le_of_ble_eq_true rfl) ?_
  refine W.eq (g2 := F0 m 4 ls []) rfl ?_
  refine lv_aload_n hx hb d_T_init_4 rfl (lv_at hl 0 rfl) ?_
  refine lv_aload_n hx hb d_T_init_5 rfl (lv_at hl 1 rfl) ?_
  refine va_putF (D := (dC, dI)) (ci := 1) (v := .ref sp) (ty := .array .byte) (C := "SieveDesk$Tokens") (T := F_T) (N := 9) hx hb ht i_T ty_T ty_T_ok n_T hown hK hP hD hS 0 rfl rfl 0 (by decide) (ht _ k_119) (fun _ h9 => h9) rfl hin rfl (ty_T_ok 0 (by decide)) rfl rfl (Nat.le_of_ble_eq_true rfl) d_T_init_6 (fun H locs hP hD hS => ?_)
  have hP : va_P (dC, dI) cls [(o, .inr (1, [.ref sp, .null, .null, .null, .null, .null, .int 0, .int 0, .int 0]))] H := hP
  have hD : va_D A [(o, .inr (1, [.ref sp, .null, .null, .null, .null, .null, .int 0, .int 0, .int 0]))] := hD
  refine lv_aload_n hx hb d_T_init_9 rfl (lv_at hl 0 rfl) ?_
  refine lv_sipush (v := 401) hx hb d_T_init_10 (by decide) ?_
  refine va_newa (atype := .int) (ty := .int) (N' := 401) (a0 := (401, .inl (fun _ => 0))) hx hb (ht _ k_118) rfl hK hP hD hS hA (fun _ => rfl) (by decide) (by decide) (by decide) (Nat.le_of_ble_eq_true rfl) (Nat.le_of_ble_eq_true rfl) d_T_init_13 (fun q_1 g_2 H hK hP hD hS => ?_)
  have hP : va_P (dC, dI) cls [(o, .inr (1, [.ref sp, .null, .null, .null, .null, .null, .int 0, .int 0, .int 0])), (q_1, .inl (g_2, 401, .inl (fun _ => 0)))] H := hP
  have hD : va_D A [(o, .inr (1, [.ref sp, .null, .null, .null, .null, .null, .int 0, .int 0, .int 0])), (q_1, .inl (g_2, 401, .inl (fun _ => 0)))] := hD
  have hK : va_K (dC, dI) cls [(g_2, .int)] s := hK
  refine W.widen (k := 1) (n := 401) (by decide) (by decide) ?_
  refine va_putF (D := (dC, dI)) (ci := 1) (v := .ref q_1) (ty := .array .int) (C := "SieveDesk$Tokens") (T := F_T) (N := 9) hx hb ht i_T ty_T ty_T_ok n_T hown hK hP hD hS 0 rfl rfl 1 (by decide) (ht _ k_120) (fun _ h9 => h9) rfl hin rfl (ty_T_ok 1 (by decide)) rfl rfl (Nat.le_of_ble_eq_true rfl) d_T_init_15 (fun H locs hP hD hS => ?_)
  have hP : va_P (dC, dI) cls [(o, .inr (1, [.ref sp, .ref q_1, .null, .null, .null, .null, .int 0, .int 0, .int 0])), (q_1, .inl (g_2, 401, .inl (fun _ => 0)))] H := hP
  have hD : va_D A [(o, .inr (1, [.ref sp, .ref q_1, .null, .null, .null, .null, .int 0, .int 0, .int 0])), (q_1, .inl (g_2, 401, .inl (fun _ => 0)))] := hD
  refine lv_aload_n hx hb d_T_init_18 rfl (lv_at hl 0 rfl) ?_
  refine lv_sipush (v := 401) hx hb d_T_init_19 (by decide) ?_
  refine va_newa (atype := .int) (ty := .int) (N' := 401) (a0 := (401, .inl (fun _ => 0))) hx hb (ht _ k_118) rfl hK hP hD hS hA (fun _ => rfl) (by decide) (by decide) (by decide) (Nat.le_of_ble_eq_true rfl) (Nat.le_of_ble_eq_true rfl) d_T_init_22 (fun q_3 g_4 H hK hP hD hS => ?_)
  have hP : va_P (dC, dI) cls [(o, .inr (1, [.ref sp, .ref q_1, .null, .null, .null, .null, .int 0, .int 0, .int 0])), (q_1, .inl (g_2, 401, .inl (fun _ => 0))), (q_3, .inl (g_4, 401, .inl (fun _ => 0)))] H := hP
  have hD : va_D A [(o, .inr (1, [.ref sp, .ref q_1, .null, .null, .null, .null, .int 0, .int 0, .int 0])), (q_1, .inl (g_2, 401, .inl (fun _ => 0))), (q_3, .inl (g_4, 401, .inl (fun _ => 0)))] := hD
  have hK : va_K (dC, dI) cls [(g_2, .int), (g_4, .int)] s := hK
  refine W.widen (k := 2) (n := 802) (by decide) (by decide) ?_
  refine va_putF (D := (dC, dI)) (ci := 1) (v := .ref q_3) (ty := .array .int) (C := "SieveDesk$Tokens") (T := F_T) (N := 9) hx hb ht i_T ty_T ty_T_ok n_T hown hK hP hD hS 0 rfl rfl 2 (by decide) (ht _ k_122) (fun _ h9 => h9) rfl hin rfl (ty_T_ok 2 (by decide)) rfl rfl (Nat.le_of_ble_eq_true rfl) d_T_init_24 (fun H locs hP hD hS => ?_)
  have hP : va_P (dC, dI) cls [(o, .inr (1, [.ref sp, .ref q_1, .ref q_3, .null, .null, .null, .int 0, .int 0, .int 0])), (q_1, .inl (g_2, 401, .inl (fun _ => 0))), (q_3, .inl (g_4, 401, .inl (fun _ => 0)))] H := hP
  have hD : va_D A [(o, .inr (1, [.ref sp, .ref q_1, .ref q_3, .null, .null, .null, .int 0, .int 0, .int 0])), (q_1, .inl (g_2, 401, .inl (fun _ => 0))), (q_3, .inl (g_4, 401, .inl (fun _ => 0)))] := hD
  refine lv_aload_n hx hb d_T_init_27 rfl (lv_at hl 0 rfl) ?_
  refine lv_sipush (v := 401) hx hb d_T_init_28 (by decide) ?_
  refine va_newq (C := "SieveDesk$Word") (N' := 401) hx hb hown (ht _ k_102) hE.2.1 hK hP hD hS hA (by decide) (by decide) (by decide) (Nat.le_of_ble_eq_true rfl) (Nat.le_of_ble_eq_true rfl) d_T_init_31 (fun q_5 g_6 H hK hP hD hS => ?_)
  have hP : va_P (dC, dI) cls [(o, .inr (1, [.ref sp, .ref q_1, .ref q_3, .null, .null, .null, .int 0, .int 0, .int 0])), (q_1, .inl (g_2, 401, .inl (fun _ => 0))), (q_3, .inl (g_4, 401, .inl (fun _ => 0))), (q_5, .inl (g_6, 401, .inr (.inr (.inr (.inr (fun _ => none))))))] H := hP
  have hD : va_D A [(o, .inr (1, [.ref sp, .ref q_1, .ref q_3, .null, .null, .null, .int 0, .int 0, .int 0])), (q_1, .inl (g_2, 401, .inl (fun _ => 0))), (q_3, .inl (g_4, 401, .inl (fun _ => 0))), (q_5, .inl (g_6, 401, .inr (.inr (.inr (.inr (fun _ => none))))))] := hD
  have hK : va_K (dC, dI) cls [(g_2, .int), (g_4, .int), (g_6, .object "SieveDesk$Word")] s := hK
  refine W.widen (k := 3) (n := 1203) (by decide) (by decide) ?_
  refine va_putF (D := (dC, dI)) (ci := 1) (v := .ref q_5) (ty := .array (.object "SieveDesk$Word")) (C := "SieveDesk$Tokens") (T := F_T) (N := 9) hx hb ht i_T ty_T ty_T_ok n_T hown hK hP hD hS 0 rfl rfl 3 (by decide) (ht _ k_124) (fun _ h9 => h9) rfl hin rfl (ty_T_ok 3 (by decide)) rfl rfl (Nat.le_of_ble_eq_true rfl) d_T_init_34 (fun H locs hP hD hS => ?_)
  have hP : va_P (dC, dI) cls [(o, .inr (1, [.ref sp, .ref q_1, .ref q_3, .ref q_5, .null, .null, .int 0, .int 0, .int 0])), (q_1, .inl (g_2, 401, .inl (fun _ => 0))), (q_3, .inl (g_4, 401, .inl (fun _ => 0))), (q_5, .inl (g_6, 401, .inr (.inr (.inr (.inr (fun _ => none))))))] H := hP
  have hD : va_D A [(o, .inr (1, [.ref sp, .ref q_1, .ref q_3, .ref q_5, .null, .null, .int 0, .int 0, .int 0])), (q_1, .inl (g_2, 401, .inl (fun _ => 0))), (q_3, .inl (g_4, 401, .inl (fun _ => 0))), (q_5, .inl (g_6, 401, .inr (.inr (.inr (.inr (fun _ => none))))))] := hD
  refine lv_aload_n hx hb d_T_init_37 rfl (lv_at hl 0 rfl) ?_
  refine lv_sipush (v := 401) hx hb d_T_init_38 (by decide) ?_
  refine va_newa (atype := .int) (ty := .int) (N' := 401) (a0 := (401, .inl (fun _ => 0))) hx hb (ht _ k_118) rfl hK hP hD hS hA (fun _ => rfl) (by decide) (by decide) (by decide) (Nat.le_of_ble_eq_true rfl) (Nat.le_of_ble_eq_true rfl) d_T_init_41 (fun q_7 g_8 H hK hP hD hS => ?_)
  have hP : va_P (dC, dI) cls [(o, .inr (1, [.ref sp, .ref q_1, .ref q_3, .ref q_5, .null, .null, .int 0, .int 0, .int 0])), (q_1, .inl (g_2, 401, .inl (fun _ => 0))), (q_3, .inl (g_4, 401, .inl (fun _ => 0))), (q_5, .inl (g_6, 401, .inr (.inr (.inr (.inr (fun _ => none)))))), (q_7, .inl (g_8, 401, .inl (fun _ => 0)))] H := hP
  have hD : va_D A [(o, .inr (1, [.ref sp, .ref q_1, .ref q_3, .ref q_5, .null, .null, .int 0, .int 0, .int 0])), (q_1, .inl (g_2, 401, .inl (fun _ => 0))), (q_3, .inl (g_4, 401, .inl (fun _ => 0))), (q_5, .inl (g_6, 401, .inr (.inr (.inr (.inr (fun _ => none)))))), (q_7, .inl (g_8, 401, .inl (fun _ => 0)))] := hD
  have hK : va_K (dC, dI) cls [(g_2, .int), (g_4, .int), (g_6, .object "SieveDesk$Word"), (g_8, .int)] s := hK
  refine W.widen (k := 4) (n := 1604) (by decide) (by decide) ?_
  refine va_putF (D := (dC, dI)) (ci := 1) (v := .ref q_7) (ty := .array .int) (C := "SieveDesk$Tokens") (T := F_T) (N := 9) hx hb ht i_T ty_T ty_T_ok n_T hown hK hP hD hS 0 rfl rfl 4 (by decide) (ht _ k_126) (fun _ h9 => h9) rfl hin rfl (ty_T_ok 4 (by decide)) rfl rfl (Nat.le_of_ble_eq_true rfl) d_T_init_43 (fun H locs hP hD hS => ?_)
  have hP : va_P (dC, dI) cls [(o, .inr (1, [.ref sp, .ref q_1, .ref q_3, .ref q_5, .ref q_7, .null, .int 0, .int 0, .int 0])), (q_1, .inl (g_2, 401, .inl (fun _ => 0))), (q_3, .inl (g_4, 401, .inl (fun _ => 0))), (q_5, .inl (g_6, 401, .inr (.inr (.inr (.inr (fun _ => none)))))), (q_7, .inl (g_8, 401, .inl (fun _ => 0)))] H := hP
  have hD : va_D A [(o, .inr (1, [.ref sp, .ref q_1, .ref q_3, .ref q_5, .ref q_7, .null, .int 0, .int 0, .int 0])), (q_1, .inl (g_2, 401, .inl (fun _ => 0))), (q_3, .inl (g_4, 401, .inl (fun _ => 0))), (q_5, .inl (g_6, 401, .inr (.inr (.inr (.inr (fun _ => none)))))), (q_7, .inl (g_8, 401, .inl (fun _ => 0)))] := hD
  refine lv_aload_n hx hb d_T_init_46 rfl (lv_at hl 0 rfl) ?_
  refine va_new (ci := 2) (fs := [.null, .int 0]) (C := "SieveDesk$Quoted") (T := F_Q) (N := 2) hx hb ht i_Q ty_Q ty_Q_ok hown (ht _ k_104) (ht _ k_105) (ht _ k_76) hK hP hD hS hA rfl (by decide +kernel) (Nat.le_of_ble_eq_true rfl) (Nat.le_of_ble_eq_true rfl) d_T_init_47 (fun q_9 H hP hD hS => ?_)
  have hP : va_P (dC, dI) cls [(o, .inr (1, [.ref sp, .ref q_1, .ref q_3, .ref q_5, .ref q_7, .null, .int 0, .int 0, .int 0])), (q_1, .inl (g_2, 401, .inl (fun _ => 0))), (q_3, .inl (g_4, 401, .inl (fun _ => 0))), (q_5, .inl (g_6, 401, .inr (.inr (.inr (.inr (fun _ => none)))))), (q_7, .inl (g_8, 401, .inl (fun _ => 0))), (q_9, .inr (2, [.null, .int 0]))] H := hP
  have hD : va_D A [(o, .inr (1, [.ref sp, .ref q_1, .ref q_3, .ref q_5, .ref q_7, .null, .int 0, .int 0, .int 0])), (q_1, .inl (g_2, 401, .inl (fun _ => 0))), (q_3, .inl (g_4, 401, .inl (fun _ => 0))), (q_5, .inl (g_6, 401, .inr (.inr (.inr (.inr (fun _ => none)))))), (q_7, .inl (g_8, 401, .inl (fun _ => 0))), (q_9, .inr (2, [.null, .int 0]))] := hD
  refine W.widen (k := 5) (n := 1606) (by decide) (by decide) ?_
  refine lv_dup hx hb d_T_init_50 rfl ?_
  have hPc := hP.sub (ws' := [(q_9, .inr (2, [.null, .int 0]))]) [5] rfl
  have hDc := hD.sub (ws' := [(q_9, .inr (2, [.null, .int 0]))]) [5] (by decide) rfl
  have hKc := hK.sub (tys' := []) [] rfl
  have hFc := va_free (wc := [(q_9, .inr (2, [.null, .int 0]))]) hD hS hA [5] rfl
  refine va_callv (va_runI (As := []) (rest := [.ref q_9, .ref o]) ⟨hx, hb, hml, hown, ht⟩ (c_Q_init l dC dI k q_9  H.size) (cwI 0 ht (g_C k_108) rfl rfl rfl (ht _ k_76) (ht _ k_106) (ht _ k_107) rfl (by decide +kernel) ⟨(Nat.le_of_ble_eq_true rfl), (Nat.le_of_ble_eq_true rfl)⟩) ⟨fb_X, pre_X hE hS hFc hPc hKc hDc⟩ rfl rfl hl.1 rfl (lv_room (Nat.le_of_ble_eq_true rfl)) d_T_init_51 ⟨(Nat.le_of_ble_eq_true rfl), (Nat.le_of_ble_eq_true rfl)⟩) hS (fun q _ h9 => hFc q h9) hFc (fun u_10 t H1 locs het hvm hw hB hz1 hk1 hS => ?_)
  obtain ⟨hP1, hK1, hD1⟩ := hB
  rw [het] at hP1
  have hK1 := va_K.moved hvm.symm hK1
  obtain ⟨hP, hD⟩ := va_join (wr := [(o, .inr (1, [.ref sp, .ref q_1, .ref q_3, .ref q_5, .ref q_7, .null, .int 0, .int 0, .int 0])), (q_1, .inl (g_2, 401, .inl (fun _ => 0))), (q_3, .inl (g_4, 401, .inl (fun _ => 0))), (q_5, .inl (g_6, 401, .inr (.inr (.inr (.inr (fun _ => none)))))), (q_7, .inl (g_8, 401, .inl (fun _ => 0)))]) (w1 := [(q_9, .inr (2, [.ref (u_10.1 0), .int 0])), ((u_10.1 0), .inl ((u_10.2 0), 200, .inl (fun _ => 0)))]) hP hD [5] [0, 1, 2, 3, 4] rfl rfl (by decide) (by decide) hk1 hFc hP1 hD1
  have hK := hK.app hK1
  generalize H1 = H at hP hS ⊢
  have hP : va_P (dC, dI) cls [(o, .inr (1, [.ref sp, .ref q_1, .ref q_3, .ref q_5, .ref q_7, .null, .int 0, .int 0, .int 0])), (q_1, .inl (g_2, 401, .inl (fun _ => 0))), (q_3, .inl (g_4, 401, .inl (fun _ => 0))), (q_5, .inl (g_6, 401, .inr (.inr (.inr (.inr (fun _ => none)))))), (q_7, .inl (g_8, 401, .inl (fun _ => 0))), (q_9, .inr (2, [.ref (u_10.1 0), .int 0])), ((u_10.1 0), .inl ((u_10.2 0), 200, .inl (fun _ => 0)))] H := hP
  have hD : va_D A [(o, .inr (1, [.ref sp, .ref q_1, .ref q_3, .ref q_5, .ref q_7, .null, .int 0, .int 0, .int 0])), (q_1, .inl (g_2, 401, .inl (fun _ => 0))), (q_3, .inl (g_4, 401, .inl (fun _ => 0))), (q_5, .inl (g_6, 401, .inr (.inr (.inr (.inr (fun _ => none)))))), (q_7, .inl (g_8, 401, .inl (fun _ => 0))), (q_9, .inr (2, [.ref (u_10.1 0), .int 0])), ((u_10.1 0), .inl ((u_10.2 0), 200, .inl (fun _ => 0)))] := hD
  have hK : va_K (dC, dI) cls [(g_2, .int), (g_4, .int), (g_6, .object "SieveDesk$Word"), (g_8, .int), ((u_10.2 0), .byte)] s := hK
  refine W.widen (k := 6) (n := 1806) (by decide) (by decide) ?_
  refine va_putF (D := (dC, dI)) (ci := 1) (v := .ref q_9) (ty := .object "SieveDesk$Quoted") (C := "SieveDesk$Tokens") (T := F_T) (N := 9) hx hb ht i_T ty_T ty_T_ok n_T hown hK hP hD hS 0 rfl rfl 5 (by decide) (ht _ k_128) (fun _ h9 => h9) rfl hin rfl (ty_T_ok 5 (by decide)) rfl rfl (Nat.le_of_ble_eq_true rfl) d_T_init_54 (fun H locs hP hD hS => ?_)
  have hP : va_P (dC, dI) cls [(o, .inr (1, [.ref sp, .ref q_1, .ref q_3, .ref q_5, .ref q_7, .ref q_9, .int 0, .int 0, .int 0])), (q_1, .inl (g_2, 401, .inl (fun _ => 0))), (q_3, .inl (g_4, 401, .inl (fun _ => 0))), (q_5, .inl (g_6, 401, .inr (.inr (.inr (.inr (fun _ => none)))))), (q_7, .inl (g_8, 401, .inl (fun _ => 0))), (q_9, .inr (2, [.ref (u_10.1 0), .int 0])), ((u_10.1 0), .inl ((u_10.2 0), 200, .inl (fun _ => 0)))] H := hP
  have hD : va_D A [(o, .inr (1, [.ref sp, .ref q_1, .ref q_3, .ref q_5, .ref q_7, .ref q_9, .int 0, .int 0, .int 0])), (q_1, .inl (g_2, 401, .inl (fun _ => 0))), (q_3, .inl (g_4, 401, .inl (fun _ => 0))), (q_5, .inl (g_6, 401, .inr (.inr (.inr (.inr (fun _ => none)))))), (q_7, .inl (g_8, 401, .inl (fun _ => 0))), (q_9, .inr (2, [.ref (u_10.1 0), .int 0])), ((u_10.1 0), .inl ((u_10.2 0), 200, .inl (fun _ => 0)))] := hD
  refine lv_aload_n hx hb d_T_init_57 rfl (lv_at hl 0 rfl) ?_
  refine lv_iconst (v := 0) hx hb d_T_init_58 (by decide) ?_
  refine va_put (D := (dC, dI)) (ci := 1) (v := .int 0) (ty := .int) (C := "SieveDesk$Tokens") (T := F_T) (N := 9) hx hb ht i_T ty_T ty_T_ok n_T hown hK hP hD hS 0 rfl rfl 6 (by decide) (ht _ k_129) (fun _ h9 => h9) rfl (ty_T_ok 6 (by decide)) rfl rfl (Nat.le_of_ble_eq_true rfl) d_T_init_59 (fun H locs hP hD hS => ?_)
  have hP : va_P (dC, dI) cls [(o, .inr (1, [.ref sp, .ref q_1, .ref q_3, .ref q_5, .ref q_7, .ref q_9, .int 0, .int 0, .int 0])), (q_1, .inl (g_2, 401, .inl (fun _ => 0))), (q_3, .inl (g_4, 401, .inl (fun _ => 0))), (q_5, .inl (g_6, 401, .inr (.inr (.inr (.inr (fun _ => none)))))), (q_7, .inl (g_8, 401, .inl (fun _ => 0))), (q_9, .inr (2, [.ref (u_10.1 0), .int 0])), ((u_10.1 0), .inl ((u_10.2 0), 200, .inl (fun _ => 0)))] H := hP
  have hD : va_D A [(o, .inr (1, [.ref sp, .ref q_1, .ref q_3, .ref q_5, .ref q_7, .ref q_9, .int 0, .int 0, .int 0])), (q_1, .inl (g_2, 401, .inl (fun _ => 0))), (q_3, .inl (g_4, 401, .inl (fun _ => 0))), (q_5, .inl (g_6, 401, .inr (.inr (.inr (.inr (fun _ => none)))))), (q_7, .inl (g_8, 401, .inl (fun _ => 0))), (q_9, .inr (2, [.ref (u_10.1 0), .int 0])), ((u_10.1 0), .inl ((u_10.2 0), 200, .inl (fun _ => 0)))] := hD
  refine lv_aload_n hx hb d_T_init_62 rfl (lv_at hl 0 rfl) ?_
  refine lv_iconst (v := 0) hx hb d_T_init_63 (by decide) ?_
  refine va_put (D := (dC, dI)) (ci := 1) (v := .int 0) (ty := .int) (C := "SieveDesk$Tokens") (T := F_T) (N := 9) hx hb ht i_T ty_T ty_T_ok n_T hown hK hP hD hS 0 rfl rfl 7 (by decide) (ht _ k_131) (fun _ h9 => h9) rfl (ty_T_ok 7 (by decide)) rfl rfl (Nat.le_of_ble_eq_true rfl) d_T_init_64 (fun H locs hP hD hS => ?_)
  have hP : va_P (dC, dI) cls [(o, .inr (1, [.ref sp, .ref q_1, .ref q_3, .ref q_5, .ref q_7, .ref q_9, .int 0, .int 0, .int 0])), (q_1, .inl (g_2, 401, .inl (fun _ => 0))), (q_3, .inl (g_4, 401, .inl (fun _ => 0))), (q_5, .inl (g_6, 401, .inr (.inr (.inr (.inr (fun _ => none)))))), (q_7, .inl (g_8, 401, .inl (fun _ => 0))), (q_9, .inr (2, [.ref (u_10.1 0), .int 0])), ((u_10.1 0), .inl ((u_10.2 0), 200, .inl (fun _ => 0)))] H := hP
  have hD : va_D A [(o, .inr (1, [.ref sp, .ref q_1, .ref q_3, .ref q_5, .ref q_7, .ref q_9, .int 0, .int 0, .int 0])), (q_1, .inl (g_2, 401, .inl (fun _ => 0))), (q_3, .inl (g_4, 401, .inl (fun _ => 0))), (q_5, .inl (g_6, 401, .inr (.inr (.inr (.inr (fun _ => none)))))), (q_7, .inl (g_8, 401, .inl (fun _ => 0))), (q_9, .inr (2, [.ref (u_10.1 0), .int 0])), ((u_10.1 0), .inl ((u_10.2 0), 200, .inl (fun _ => 0)))] := hD
  refine lv_aload_n hx hb d_T_init_67 rfl (lv_at hl 0 rfl) ?_
  refine lv_iconst (v := 0) hx hb d_T_init_68 (by decide) ?_
  refine va_put (D := (dC, dI)) (ci := 1) (v := .int 0) (ty := .int) (C := "SieveDesk$Tokens") (T := F_T) (N := 9) hx hb ht i_T ty_T ty_T_ok n_T hown hK hP hD hS 0 rfl rfl 8 (by decide) (ht _ k_132) (fun _ h9 => h9) rfl (ty_T_ok 8 (by decide)) rfl rfl (Nat.le_of_ble_eq_true rfl) d_T_init_69 (fun H locs hP hD hS => ?_)
  have hP : va_P (dC, dI) cls [(o, .inr (1, [.ref sp, .ref q_1, .ref q_3, .ref q_5, .ref q_7, .ref q_9, .int 0, .int 0, .int 0])), (q_1, .inl (g_2, 401, .inl (fun _ => 0))), (q_3, .inl (g_4, 401, .inl (fun _ => 0))), (q_5, .inl (g_6, 401, .inr (.inr (.inr (.inr (fun _ => none)))))), (q_7, .inl (g_8, 401, .inl (fun _ => 0))), (q_9, .inr (2, [.ref (u_10.1 0), .int 0])), ((u_10.1 0), .inl ((u_10.2 0), 200, .inl (fun _ => 0)))] H := hP
  have hD : va_D A [(o, .inr (1, [.ref sp, .ref q_1, .ref q_3, .ref q_5, .ref q_7, .ref q_9, .int 0, .int 0, .int 0])), (q_1, .inl (g_2, 401, .inl (fun _ => 0))), (q_3, .inl (g_4, 401, .inl (fun _ => 0))), (q_5, .inl (g_6, 401, .inr (.inr (.inr (.inr (fun _ => none)))))), (q_7, .inl (g_8, 401, .inl (fun _ => 0))), (q_9, .inr (2, [.ref (u_10.1 0), .int 0])), ((u_10.1 0), .inl ((u_10.2 0), 200, .inl (fun _ => 0)))] := hD
  exact W.vret hx hb hr (fun t het hW => ⟨⟨((fun i => match i with | 0 => q_1 | 1 => q_3 | 2 => q_5 | 3 => q_7 | 4 => q_9 | 5 => (u_10.1 0) | _ => 0), (fun i => match i with | 0 => g_2 | 1 => g_4 | 2 => g_6 | 3 => g_8 | _ => (u_10.2 0))), rfl, trivial, by rw [het]; exact hP, va_K.moved hW.alike hK, hD⟩, hS.F het⟩) hS.2.2 d_T_init_72
set_option maxHeartbeats 4000000 in
set_option maxRecDepth 100000 in
theorem c_G_init (l : Launch) (dC : Nat → ClassId) (dI : Nat → Nat → Nat) (k : Nat → Nat) (o tk : Nat) (sz : Nat) : Met l y_G_init (.code y_G_init b_G_init 2 none :: TT) ({ frames := 1, cells := 1, slots := 200, locals := 12 }) (va_Pc [.ref o, .ref tk] (PX dC dI k [] [(o, .inr (3, [.null, .null, .int 0, .int 0, .int 0, .null, .null, .int 0, .int 0, .int 0, .int 0, .int 0, .int 0, .int 0]))] sz)) (va_Qv (fun u : (Nat → Nat) × (Nat → ClassId) => True) (fun u t => BX dC dI [((u.2 0), .char)] (va_A [(o, .inr (3, [.null, .null, .int 0, .int 0, .int 0, .null, .null, .int 0, .int 0, .int 0, .int 0, .int 0, .int 0, .int 0]))] sz) [(o, .inr (3, [.ref tk, .ref (u.1 0), .int 0, .int 0, .int 0, .ref (k 0), .ref (k 0), .int 0, .int 0, .int 0, .int 0, .int 0, .int 0, .int 0])), ((u.1 0), .inl ((u.2 0), 200, .inl (fun _ => 0)))] t) (va_A [(o, .inr (3, [.null, .null, .int 0, .int 0, .int 0, .null, .null, .int 0, .int 0, .int 0, .int 0, .int 0, .int 0, .int 0]))] sz)) 1 200 (va_A [(o, .inr (3, [.null, .null, .int 0, .int 0, .int 0, .null, .null, .int 0, .int 0, .int 0, .int 0, .int 0, .int 0, .int 0]))] sz) := by
  refine Met.ofW (cc := b_G_init) (maxL := 2) (ret := none) (by decide) rfl ?_
  intro p e s m args below meth c s₁ B hml hv
  obtain ⟨rfl, hsz, hE, hP, hK, hD0⟩ := hv
  have hx := B.exec
  have hb := B.bytes
  have hr := B.returns
  have ht : ∀ w ∈ TT, w.before _ s = true := fun w hw => atoms_spec (ws := .code y_G_init b_G_init 2 none :: TT) B.pre w (List.mem_cons_of_mem _ hw)
  have hown : s.vm.findClass "SieveDesk$Grammar" = some m.cls := findClass_of_methodNamed B.named
  have hlocks := B.notSynchronized
  have hin : meth.name = "<init>" := (name_of_methodNamed B.named B.method).1
  subst hsz
  have hD := hD0.self (sz := s.heap.size)
  generalize hAe : va_A [(o, .inr (3, [.null, .null, .int 0, .int 0, .int 0, .null, .null, .int 0, .int 0, .int 0, .int 0, .int 0, .int 0, .int 0]))] s.heap.size = A at hE hD ⊢
  have hA : ∀ q : Nat, s.heap.size ≤ q → A q := fun q h9 => by rw [← hAe]; exact Or.inr h9
  have hS : va_S A s.heap s.heap [] := va_S.rf
  have hl := lv_entry ([.ref o, .ref tk]) (n := 2) (Nat.le_of_ble_eq_true rfl)
  rw [lg_entry_eq]
  generalize (lg_sl ([.ref o, .ref tk]) ++ List.replicate (2 - (lg_sl ([.ref o, .ref tk])).length) Slot.unset).toArray = ls at hl ⊢
  have hl : lv_has ls 2 [(0, .ref o), (1, .ref tk)] := hl
  refine lv_aload_n hx hb d_G_init_0 rfl (lv_at hl 0 rfl) ?_
  refine W.objInit hx hb hown (ht _ k_157) (ht _ k_94) (ht _ k_95) rfl (by rw [hml]; exact hl.1) rfl d_G_init_1 (Nat.le_of_ble_eq_true rfl) (Nat.le_of_ble_eq_true rfl) ?_
  refine W.eq (g2 := F0 m 4 ls []) rfl ?_
  refine lv_aload_n hx hb d_G_init_4 rfl (lv_at hl 0 rfl) ?_
  refine lv_aload_n hx hb d_G_init_5 rfl (lv_at hl 1 rfl) ?_
  refine va_putF (D := (dC, dI)) (ci := 3) (v := .ref tk) (ty := .object "SieveDesk$Tokens") (C := "SieveDesk$Grammar") (T := F_G) (N := 14) hx hb ht i_G ty_G ty_G_ok n_G hown hK hP hD hS 0 rfl rfl 0 (by decide) (ht _ k_160) (fun _ h9 => h9) rfl hin rfl (ty_G_ok 0 (by decide)) rfl rfl (Nat.le_of_ble_eq_true rfl) d_G_init_6 (fun H locs hP hD hS => ?_)
  have hP : va_P (dC, dI) cls [(o, .inr (3, [.ref tk, .null, .int 0, .int 0, .int 0, .null, .null, .int 0, .int 0, .int 0, .int 0, .int 0, .int 0, .int 0]))] H := hP
  have hD : va_D A [(o, .inr (3, [.ref tk, .null, .int 0, .int 0, .int 0, .null, .null, .int 0, .int 0, .int 0, .int 0, .int 0, .int 0, .int 0]))] := hD
  refine lv_aload_n hx hb d_G_init_9 rfl (lv_at hl 0 rfl) ?_
  refine lv_sipush (v := 200) hx hb d_G_init_10 (by decide) ?_
  refine va_newa (atype := .char) (ty := .char) (N' := 200) (a0 := (200, .inl (fun _ => 0))) hx hb (ht _ k_206) rfl hK hP hD hS hA (fun _ => rfl) (by decide) (by decide) (by decide) (Nat.le_of_ble_eq_true rfl) (Nat.le_of_ble_eq_true rfl) d_G_init_13 (fun q_1 g_2 H hK hP hD hS => ?_)
  have hP : va_P (dC, dI) cls [(o, .inr (3, [.ref tk, .null, .int 0, .int 0, .int 0, .null, .null, .int 0, .int 0, .int 0, .int 0, .int 0, .int 0, .int 0])), (q_1, .inl (g_2, 200, .inl (fun _ => 0)))] H := hP
  have hD : va_D A [(o, .inr (3, [.ref tk, .null, .int 0, .int 0, .int 0, .null, .null, .int 0, .int 0, .int 0, .int 0, .int 0, .int 0, .int 0])), (q_1, .inl (g_2, 200, .inl (fun _ => 0)))] := hD
  have hK : va_K (dC, dI) cls [(g_2, .char)] s := hK
  refine W.widen (k := 1) (n := 200) (by decide) (by decide) ?_
  refine va_putF (D := (dC, dI)) (ci := 3) (v := .ref q_1) (ty := .array .char) (C := "SieveDesk$Grammar") (T := F_G) (N := 14) hx hb ht i_G ty_G ty_G_ok n_G hown hK hP hD hS 0 rfl rfl 1 (by decide) (ht _ k_161) (fun _ h9 => h9) rfl hin rfl (ty_G_ok 1 (by decide)) rfl rfl (Nat.le_of_ble_eq_true rfl) d_G_init_15 (fun H locs hP hD hS => ?_)
  have hP : va_P (dC, dI) cls [(o, .inr (3, [.ref tk, .ref q_1, .int 0, .int 0, .int 0, .null, .null, .int 0, .int 0, .int 0, .int 0, .int 0, .int 0, .int 0])), (q_1, .inl (g_2, 200, .inl (fun _ => 0)))] H := hP
  have hD : va_D A [(o, .inr (3, [.ref tk, .ref q_1, .int 0, .int 0, .int 0, .null, .null, .int 0, .int 0, .int 0, .int 0, .int 0, .int 0, .int 0])), (q_1, .inl (g_2, 200, .inl (fun _ => 0)))] := hD
  refine lv_aload_n hx hb d_G_init_18 rfl (lv_at hl 0 rfl) ?_
  refine va_gets hx hb hE.2.2.1 hS hown (ht _ k_158) (fun _ h9 => h9) d_G_init_19 ?_
  refine va_put (D := (dC, dI)) (ci := 3) (v := .ref (k 0)) (ty := .object "SieveDesk$Word") (C := "SieveDesk$Grammar") (T := F_G) (N := 14) hx hb ht i_G ty_G ty_G_ok n_G hown hK hP hD hS 0 rfl rfl 5 (by decide) (ht _ k_165) (fun _ h9 => h9) rfl (ty_G_ok 5 (by decide)) rfl rfl (Nat.le_of_ble_eq_true rfl) d_G_init_22 (fun H locs hP hD hS => ?_)
  have hP : va_P (dC, dI) cls [(o, .inr (3, [.ref tk, .ref q_1, .int 0, .int 0, .int 0, .ref (k 0), .null, .int 0, .int 0, .int 0, .int 0, .int 0, .int 0, .int 0])), (q_1, .inl (g_2, 200, .inl (fun _ => 0)))] H := hP
  have hD : va_D A [(o, .inr (3, [.ref tk, .ref q_1, .int 0, .int 0, .int 0, .ref (k 0), .null, .int 0, .int 0, .int 0, .int 0, .int 0, .int 0, .int 0])), (q_1, .inl (g_2, 200, .inl (fun _ => 0)))] := hD
  refine lv_aload_n hx hb d_G_init_25 rfl (lv_at hl 0 rfl) ?_
  refine va_gets hx hb hE.2.2.1 hS hown (ht _ k_158) (fun _ h9 => h9) d_G_init_26 ?_
  refine va_put (D := (dC, dI)) (ci := 3) (v := .ref (k 0)) (ty := .object "SieveDesk$Word") (C := "SieveDesk$Grammar") (T := F_G) (N := 14) hx hb ht i_G ty_G ty_G_ok n_G hown hK hP hD hS 0 rfl rfl 6 (by decide) (ht _ k_166) (fun _ h9 => h9) rfl (ty_G_ok 6 (by decide)) rfl rfl (Nat.le_of_ble_eq_true rfl) d_G_init_29 (fun H locs hP hD hS => ?_)
  have hP : va_P (dC, dI) cls [(o, .inr (3, [.ref tk, .ref q_1, .int 0, .int 0, .int 0, .ref (k 0), .ref (k 0), .int 0, .int 0, .int 0, .int 0, .int 0, .int 0, .int 0])), (q_1, .inl (g_2, 200, .inl (fun _ => 0)))] H := hP
  have hD : va_D A [(o, .inr (3, [.ref tk, .ref q_1, .int 0, .int 0, .int 0, .ref (k 0), .ref (k 0), .int 0, .int 0, .int 0, .int 0, .int 0, .int 0, .int 0])), (q_1, .inl (g_2, 200, .inl (fun _ => 0)))] := hD
  exact W.vret hx hb hr (fun t het hW => ⟨⟨((fun i => match i with | 0 => q_1 | _ => 0), (fun i => match i with | _ => g_2)), rfl, trivial, by rw [het]; exact hP, va_K.moved hW.alike hK, hD⟩, hS.F het⟩) hS.2.2 d_G_init_32
set_option maxHeartbeats 4000000 in
set_option maxRecDepth 100000 in
theorem c_S_init (l : Launch) (dC : Nat → ClassId) (dI : Nat → Nat → Nat) (k : Nat → Nat) (o : Nat) (sz : Nat) : Met l y_S_init (.code y_S_init b_S_init 1 none :: TT) ({ frames := 3, cells := 10, slots := 2429, locals := 53 }) (va_Pc [.ref o] (PX dC dI k [] [(o, .inr (0, [.null, .null, .null, .int 0, .int 0]))] sz)) (va_Qv (fun u : (Nat → Nat) × (Nat → ClassId) => True) (fun u t => BX dC dI [((u.2 0), .byte), ((u.2 1), .int), ((u.2 2), .int), ((u.2 3), .object "SieveDesk$Word"), ((u.2 4), .int), ((u.2 5), .byte), ((u.2 6), .char)] (va_A [(o, .inr (0, [.null, .null, .null, .int 0, .int 0]))] sz) [(o, .inr (0, [.ref (u.1 0), .ref (u.1 1), .ref (u.1 8), .int 0, .int (-1)])), ((u.1 0), .inl ((u.2 0), 400, .inl (fun _ => 0))), ((u.1 1), .inr (1, [.ref (u.1 0), .ref (u.1 2), .ref (u.1 3), .ref (u.1 4), .ref (u.1 5), .ref (u.1 6), .int 0, .int 0, .int 0])), ((u.1 2), .inl ((u.2 1), 401, .inl (fun _ => 0))), ((u.1 3), .inl ((u.2 2), 401, .inl (fun _ => 0))), ((u.1 4), .inl ((u.2 3), 401, .inr (.inr (.inr (.inr (fun _ => none)))))), ((u.1 5), .inl ((u.2 4), 401, .inl (fun _ => 0))), ((u.1 6), .inr (2, [.ref (u.1 7), .int 0])), ((u.1 7), .inl ((u.2 5), 200, .inl (fun _ => 0))), ((u.1 8), .inr (3, [.ref (u.1 1), .ref (u.1 9), .int 0, .int 0, .int 0, .ref (k 0), .ref (k 0), .int 0, .int 0, .int 0, .int 0, .int 0, .int 0, .int 0])), ((u.1 9), .inl ((u.2 6), 200, .inl (fun _ => 0)))] t) (va_A [(o, .inr (0, [.null, .null, .null, .int 0, .int 0]))] sz)) 10 2429 (va_A [(o, .inr (0, [.null, .null, .null, .int 0, .int 0]))] sz) := by
  refine Met.ofW (cc := b_S_init) (maxL := 1) (ret := none) (by decide) rfl ?_
  intro p e s m args below meth c s₁ B hml hv
  obtain ⟨rfl, hsz, hE, hP, hK, hD0⟩ := hv
  have hx := B.exec
  have hb := B.bytes
  have hr := B.returns
  have ht : ∀ w ∈ TT, w.before _ s = true := fun w hw => atoms_spec (ws := .code y_S_init b_S_init 1 none :: TT) B.pre w (List.mem_cons_of_mem _ hw)
  have hown : s.vm.findClass "SieveDesk" = some m.cls := findClass_of_methodNamed B.named
  have hlocks := B.notSynchronized
  have hin : meth.name = "<init>" := (name_of_methodNamed B.named B.method).1
  subst hsz
  have hD := hD0.self (sz := s.heap.size)
  generalize hAe : va_A [(o, .inr (0, [.null, .null, .null, .int 0, .int 0]))] s.heap.size = A at hE hD ⊢
  have hA : ∀ q : Nat, s.heap.size ≤ q → A q := fun q h9 => by rw [← hAe]; exact Or.inr h9
  have hS : va_S A s.heap s.heap [] := va_S.rf
  have hl := lv_entry ([.ref o]) (n := 1) (Nat.le_of_ble_eq_true rfl)
  rw [lg_entry_eq]
  generalize (lg_sl ([.ref o]) ++ List.replicate (1 - (lg_sl ([.ref o])).length) Slot.unset).toArray = ls at hl ⊢
  have hl : lv_has ls 1 [(0, .ref o)] := hl
  refine lv_aload_n hx hb d_S_init_0 rfl (lv_at hl 0 rfl) ?_
  refine W.objInit hx hb hown (ht _ k_93) (ht _ k_94) (ht _ k_95) rfl (by rw [hml]; exact hl.1) rfl d_S_init_1 (Nat.le_of_ble_eq_true rfl) (Nat.le_of_ble_eq_true rfl) ?_
  refine W.eq (g2 := F0 m 4 ls []) rfl ?_
  refine lv_aload_n hx hb d_S_init_4 rfl (lv_at hl 0 rfl) ?_
  refine lv_sipush (v := 400) hx hb d_S_init_5 (by decide) ?_
  refine va_newa (atype := .byte) (ty := .byte) (N' := 400) (a0 := (400, .inl (fun _ => 0))) hx hb (ht _ k_117) rfl hK hP hD hS hA (fun _ => rfl) (by decide) (by decide) (by decide) (Nat.le_of_ble_eq_true rfl) (Nat.le_of_ble_eq_true rfl) d_S_init_8 (fun q_1 g_2 H hK hP hD hS => ?_)
  have hP : va_P (dC, dI) cls [(o, .inr (0, [.null, .null, .null, .int 0, .int 0])), (q_1, .inl (g_2, 400, .inl (fun _ => 0)))] H := hP
  have hD : va_D A [(o, .inr (0, [.null, .null, .null, .int 0, .int 0])), (q_1, .inl (g_2, 400, .inl (fun _ => 0)))] := hD
  have hK : va_K (dC, dI) cls [(g_2, .byte)] s := hK
  refine W.widen (k := 1) (n := 400) (by decide) (by decide) ?_
  refine va_putF (D := (dC, dI)) (ci := 0) (v := .ref q_1) (ty := .array .byte) (C := "SieveDesk") (T := F_S) (N := 5) hx hb ht i_S ty_S ty_S_ok n_S hown hK hP hD hS 0 rfl rfl 0 (by decide) (ht _ k_207) (fun _ h9 => h9) rfl hin rfl (ty_S_ok 0 (by decide)) rfl rfl (Nat.le_of_ble_eq_true rfl) d_S_init_10 (fun H locs hP hD hS => ?_)
  have hP : va_P (dC, dI) cls [(o, .inr (0, [.ref q_1, .null, .null, .int 0, .int 0])), (q_1, .inl (g_2, 400, .inl (fun _ => 0)))] H := hP
  have hD : va_D A [(o, .inr (0, [.ref q_1, .null, .null, .int 0, .int 0])), (q_1, .inl (g_2, 400, .inl (fun _ => 0)))] := hD
  refine lv_aload_n hx hb d_S_init_13 rfl (lv_at hl 0 rfl) ?_
  refine va_new (ci := 1) (fs := [.null, .null, .null, .null, .null, .null, .int 0, .int 0, .int 0]) (C := "SieveDesk$Tokens") (T := F_T) (N := 9) hx hb ht i_T ty_T ty_T_ok hown (ht _ k_96) (ht _ k_97) (ht _ k_75) hK hP hD hS hA rfl (by decide +kernel) (Nat.le_of_ble_eq_true rfl) (Nat.le_of_ble_eq_true rfl) d_S_init_14 (fun q_3 H hP hD hS => ?_)
  have hP : va_P (dC, dI) cls [(o, .inr (0, [.ref q_1, .null, .null, .int 0, .int 0])), (q_1, .inl (g_2, 400, .inl (fun _ => 0))), (q_3, .inr (1, [.null, .null, .null, .null, .null, .null, .int 0, .int 0, .int 0]))] H := hP
  have hD : va_D A [(o, .inr (0, [.ref q_1, .null, .null, .int 0, .int 0])), (q_1, .inl (g_2, 400, .inl (fun _ => 0))), (q_3, .inr (1, [.null, .null, .null, .null, .null, .null, .int 0, .int 0, .int 0]))] := hD
  refine W.widen (k := 2) (n := 409) (by decide) (by decide) ?_
  refine lv_dup hx hb d_S_init_17 rfl ?_
  refine lv_aload_n hx hb d_S_init_18 rfl (lv_at hl 0 rfl) ?_
  refine va_get (D := (dC, dI)) (ci := 0) (v := .ref q_1) (C := "SieveDesk") (T := F_S) (N := 5) hx hb ht i_S hown hK hP 0 rfl rfl 0 (by decide) (ht _ k_207) (fun _ h9 => h9) rfl d_S_init_19 ?_
  have hPc := hP.sub (ws' := [(q_3, .inr (1, [.null, .null, .null, .null, .null, .null, .int 0, .int 0, .int 0]))]) [2] rfl
  have hDc := hD.sub (ws' := [(q_3, .inr (1, [.null, .null, .null, .null, .null, .null, .int 0, .int 0, .int 0]))]) [2] (by decide) rfl
  have hKc := hK.sub (tys' := []) [] rfl
  have hFc := va_free (wc := [(q_3, .inr (1, [.null, .null, .null, .null, .null, .null, .int 0, .int 0, .int 0]))]) hD hS hA [2] rfl
  refine va_callv (va_runI (As := [.ref q_1]) (rest := [.ref q_3, .ref o]) ⟨hx, hb, hml, hown, ht⟩ (c_T_init l dC dI k q_3 q_1 H.size) (cwI 1 ht (g_C k_100) rfl rfl rfl (ht _ k_75) (ht _ k_98) (ht _ k_99) rfl (by decide +kernel) ⟨(Nat.le_of_ble_eq_true rfl), (Nat.le_of_ble_eq_true rfl)⟩) ⟨fb_X, pre_X hE hS hFc hPc hKc hDc⟩ rfl rfl hl.1 rfl (lv_room (Nat.le_of_ble_eq_true rfl)) d_S_init_22 ⟨(Nat.le_of_ble_eq_true rfl), (Nat.le_of_ble_eq_true rfl)⟩) hS (fun q _ h9 => hFc q h9) hFc (fun u_4 t H1 locs het hvm hw hB hz1 hk1 hS => ?_)
  obtain ⟨hP1, hK1, hD1⟩ := hB
  rw [het] at hP1
  have hK1 := va_K.moved hvm.symm hK1
  obtain ⟨hP, hD⟩ := va_join (wr := [(o, .inr (0, [.ref q_1, .null, .null, .int 0, .int 0])), (q_1, .inl (g_2, 400, .inl (fun _ => 0)))]) (w1 := [(q_3, .inr (1, [.ref q_1, .ref (u_4.1 0), .ref (u_4.1 1), .ref (u_4.1 2), .ref (u_4.1 3), .ref (u_4.1 4), .int 0, .int 0, .int 0])), ((u_4.1 0), .inl ((u_4.2 0), 401, .inl (fun _ => 0))), ((u_4.1 1), .inl ((u_4.2 1), 401, .inl (fun _ => 0))), ((u_4.1 2), .inl ((u_4.2 2), 401, .inr (.inr (.inr (.inr (fun _ => none)))))), ((u_4.1 3), .inl ((u_4.2 3), 401, .inl (fun _ => 0))), ((u_4.1 4), .inr (2, [.ref (u_4.1 5), .int 0])), ((u_4.1 5), .inl ((u_4.2 4), 200, .inl (fun _ => 0)))]) hP hD [2] [0, 1] rfl rfl (by decide) (by decide) hk1 hFc hP1 hD1
  have hK := hK.app hK1
  generalize H1 = H at hP hS ⊢
  have hP : va_P (dC, dI) cls [(o, .inr (0, [.ref q_1, .null, .null, .int 0, .int 0])), (q_1, .inl (g_2, 400, .inl (fun _ => 0))), (q_3, .inr (1, [.ref q_1, .ref (u_4.1 0), .ref (u_4.1 1), .ref (u_4.1 2), .ref (u_4.1 3), .ref (u_4.1 4), .int 0, .int 0, .int 0])), ((u_4.1 0), .inl ((u_4.2 0), 401, .inl (fun _ => 0))), ((u_4.1 1), .inl ((u_4.2 1), 401, .inl (fun _ => 0))), ((u_4.1 2), .inl ((u_4.2 2), 401, .inr (.inr (.inr (.inr (fun _ => none)))))), ((u_4.1 3), .inl ((u_4.2 3), 401, .inl (fun _ => 0))), ((u_4.1 4), .inr (2, [.ref (u_4.1 5), .int 0])), ((u_4.1 5), .inl ((u_4.2 4), 200, .inl (fun _ => 0)))] H := hP
  have hD : va_D A [(o, .inr (0, [.ref q_1, .null, .null, .int 0, .int 0])), (q_1, .inl (g_2, 400, .inl (fun _ => 0))), (q_3, .inr (1, [.ref q_1, .ref (u_4.1 0), .ref (u_4.1 1), .ref (u_4.1 2), .ref (u_4.1 3), .ref (u_4.1 4), .int 0, .int 0, .int 0])), ((u_4.1 0), .inl ((u_4.2 0), 401, .inl (fun _ => 0))), ((u_4.1 1), .inl ((u_4.2 1), 401, .inl (fun _ => 0))), ((u_4.1 2), .inl ((u_4.2 2), 401, .inr (.inr (.inr (.inr (fun _ => none)))))), ((u_4.1 3), .inl ((u_4.2 3), 401, .inl (fun _ => 0))), ((u_4.1 4), .inr (2, [.ref (u_4.1 5), .int 0])), ((u_4.1 5), .inl ((u_4.2 4), 200, .inl (fun _ => 0)))] := hD
  have hK : va_K (dC, dI) cls [(g_2, .byte), ((u_4.2 0), .int), ((u_4.2 1), .int), ((u_4.2 2), .object "SieveDesk$Word"), ((u_4.2 3), .int), ((u_4.2 4), .byte)] s := hK
  refine W.widen (k := 8) (n := 2215) (by decide) (by decide) ?_
  refine va_putF (D := (dC, dI)) (ci := 0) (v := .ref q_3) (ty := .object "SieveDesk$Tokens") (C := "SieveDesk") (T := F_S) (N := 5) hx hb ht i_S ty_S ty_S_ok n_S hown hK hP hD hS 0 rfl rfl 1 (by decide) (ht _ k_208) (fun _ h9 => h9) rfl hin rfl (ty_S_ok 1 (by decide)) rfl rfl (Nat.le_of_ble_eq_true rfl) d_S_init_25 (fun H locs hP hD hS => ?_)
  have hP : va_P (dC, dI) cls [(o, .inr (0, [.ref q_1, .ref q_3, .null, .int 0, .int 0])), (q_1, .inl (g_2, 400, .inl (fun _ => 0))), (q_3, .inr (1, [.ref q_1, .ref (u_4.1 0), .ref (u_4.1 1), .ref (u_4.1 2), .ref (u_4.1 3), .ref (u_4.1 4), .int 0, .int 0, .int 0])), ((u_4.1 0), .inl ((u_4.2 0), 401, .inl (fun _ => 0))), ((u_4.1 1), .inl ((u_4.2 1), 401, .inl (fun _ => 0))), ((u_4.1 2), .inl ((u_4.2 2), 401, .inr (.inr (.inr (.inr (fun _ => none)))))), ((u_4.1 3), .inl ((u_4.2 3), 401, .inl (fun _ => 0))), ((u_4.1 4), .inr (2, [.ref (u_4.1 5), .int 0])), ((u_4.1 5), .inl ((u_4.2 4), 200, .inl (fun _ => 0)))] H := hP
  have hD : va_D A [(o, .inr (0, [.ref q_1, .ref q_3, .null, .int 0, .int 0])), (q_1, .inl (g_2, 400, .inl (fun _ => 0))), (q_3, .inr (1, [.ref q_1, .ref (u_4.1 0), .ref (u_4.1 1), .ref (u_4.1 2), .ref (u_4.1 3), .ref (u_4.1 4), .int 0, .int 0, .int 0])), ((u_4.1 0), .inl ((u_4.2 0), 401, .inl (fun _ => 0))), ((u_4.1 1), .inl ((u_4.2 1), 401, .inl (fun _ => 0))), ((u_4.1 2), .inl ((u_4.2 2), 401, .inr (.inr (.inr (.inr (fun _ => none)))))), ((u_4.1 3), .inl ((u_4.2 3), 401, .inl (fun _ => 0))), ((u_4.1 4), .inr (2, [.ref (u_4.1 5), .int 0])), ((u_4.1 5), .inl ((u_4.2 4), 200, .inl (fun _ => 0)))] := hD
  refine lv_aload_n hx hb d_S_init_28 rfl (lv_at hl 0 rfl) ?_
  refine va_new (ci := 3) (fs := [.null, .null, .int 0, .int 0, .int 0, .null, .null, .int 0, .int 0, .int 0, .int 0, .int 0, .int 0, .int 0]) (C := "SieveDesk$Grammar") (T := F_G) (N := 14) hx hb ht i_G ty_G ty_G_ok hown (ht _ k_152) (ht _ k_153) (ht _ k_77) hK hP hD hS hA rfl (by decide +kernel) (Nat.le_of_ble_eq_true rfl) (Nat.le_of_ble_eq_true rfl) d_S_init_29 (fun q_5 H hP hD hS => ?_)
  have hP : va_P (dC, dI) cls [(o, .inr (0, [.ref q_1, .ref q_3, .null, .int 0, .int 0])), (q_1, .inl (g_2, 400, .inl (fun _ => 0))), (q_3, .inr (1, [.ref q_1, .ref (u_4.1 0), .ref (u_4.1 1), .ref (u_4.1 2), .ref (u_4.1 3), .ref (u_4.1 4), .int 0, .int 0, .int 0])), ((u_4.1 0), .inl ((u_4.2 0), 401, .inl (fun _ => 0))), ((u_4.1 1), .inl ((u_4.2 1), 401, .inl (fun _ => 0))), ((u_4.1 2), .inl ((u_4.2 2), 401, .inr (.inr (.inr (.inr (fun _ => none)))))), ((u_4.1 3), .inl ((u_4.2 3), 401, .inl (fun _ => 0))), ((u_4.1 4), .inr (2, [.ref (u_4.1 5), .int 0])), ((u_4.1 5), .inl ((u_4.2 4), 200, .inl (fun _ => 0))), (q_5, .inr (3, [.null, .null, .int 0, .int 0, .int 0, .null, .null, .int 0, .int 0, .int 0, .int 0, .int 0, .int 0, .int 0]))] H := hP
  have hD : va_D A [(o, .inr (0, [.ref q_1, .ref q_3, .null, .int 0, .int 0])), (q_1, .inl (g_2, 400, .inl (fun _ => 0))), (q_3, .inr (1, [.ref q_1, .ref (u_4.1 0), .ref (u_4.1 1), .ref (u_4.1 2), .ref (u_4.1 3), .ref (u_4.1 4), .int 0, .int 0, .int 0])), ((u_4.1 0), .inl ((u_4.2 0), 401, .inl (fun _ => 0))), ((u_4.1 1), .inl ((u_4.2 1), 401, .inl (fun _ => 0))), ((u_4.1 2), .inl ((u_4.2 2), 401, .inr (.inr (.inr (.inr (fun _ => none)))))), ((u_4.1 3), .inl ((u_4.2 3), 401, .inl (fun _ => 0))), ((u_4.1 4), .inr (2, [.ref (u_4.1 5), .int 0])), ((u_4.1 5), .inl ((u_4.2 4), 200, .inl (fun _ => 0))), (q_5, .inr (3, [.null, .null, .int 0, .int 0, .int 0, .null, .null, .int 0, .int 0, .int 0, .int 0, .int 0, .int 0, .int 0]))] := hD
  refine W.widen (k := 9) (n := 2229) (by decide) (by decide) ?_
  refine lv_dup hx hb d_S_init_32 rfl ?_
  refine lv_aload_n hx hb d_S_init_33 rfl (lv_at hl 0 rfl) ?_
  refine va_get (D := (dC, dI)) (ci := 0) (v := .ref q_3) (C := "SieveDesk") (T := F_S) (N := 5) hx hb ht i_S hown hK hP 0 rfl rfl 1 (by decide) (ht _ k_208) (fun _ h9 => h9) rfl d_S_init_34 ?_
  have hPc := hP.sub (ws' := [(q_5, .inr (3, [.null, .null, .int 0, .int 0, .int 0, .null, .null, .int 0, .int 0, .int 0, .int 0, .int 0, .int 0, .int 0]))]) [9] rfl
  have hDc := hD.sub (ws' := [(q_5, .inr (3, [.null, .null, .int 0, .int 0, .int 0, .null, .null, .int 0, .int 0, .int 0, .int 0, .int 0, .int 0, .int 0]))]) [9] (by decide) rfl
  have hKc := hK.sub (tys' := []) [] rfl
  have hFc := va_free (wc := [(q_5, .inr (3, [.null, .null, .int 0, .int 0, .int 0, .null, .null, .int 0, .int 0, .int 0, .int 0, .int 0, .int 0, .int 0]))]) hD hS hA [9] rfl
  refine va_callv (va_runI (As := [.ref q_3]) (rest := [.ref q_5, .ref o]) ⟨hx, hb, hml, hown, ht⟩ (c_G_init l dC dI k q_5 q_3 H.size) (cwI 1 ht (g_C k_156) rfl rfl rfl (ht _ k_77) (ht _ k_154) (ht _ k_155) rfl (by decide +kernel) ⟨(Nat.le_of_ble_eq_true rfl), (Nat.le_of_ble_eq_true rfl)⟩) ⟨fb_X, pre_X hE hS hFc hPc hKc hDc⟩ rfl rfl hl.1 rfl (lv_room (Nat.le_of_ble_eq_true rfl)) d_S_init_37 ⟨(Nat.le_of_ble_eq_true rfl), (Nat.le_of_ble_eq_true rfl)⟩) hS (fun q _ h9 => hFc q h9) hFc (fun u_6 t H1 locs het hvm hw hB hz1 hk1 hS => ?_)
  obtain ⟨hP1, hK1, hD1⟩ := hB
  rw [het] at hP1
  have hK1 := va_K.moved hvm.symm hK1
  obtain ⟨hP, hD⟩ := va_join (wr := [(o, .inr (0, [.ref q_1, .ref q_3, .null, .int 0, .int 0])), (q_1, .inl (g_2, 400, .inl (fun _ => 0))), (q_3, .inr (1, [.ref q_1, .ref (u_4.1 0), .ref (u_4.1 1), .ref (u_4.1 2), .ref (u_4.1 3), .ref (u_4.1 4), .int 0, .int 0, .int 0])), ((u_4.1 0), .inl ((u_4.2 0), 401, .inl (fun _ => 0))), ((u_4.1 1), .inl ((u_4.2 1), 401, .inl (fun _ => 0))), ((u_4.1 2), .inl ((u_4.2 2), 401, .inr (.inr (.inr (.inr (fun _ => none)))))), ((u_4.1 3), .inl ((u_4.2 3), 401, .inl (fun _ => 0))), ((u_4.1 4), .inr (2, [.ref (u_4.1 5), .int 0])), ((u_4.1 5), .inl ((u_4.2 4), 200, .inl (fun _ => 0)))]) (w1 := [(q_5, .inr (3, [.ref q_3, .ref (u_6.1 0), .int 0, .int 0, .int 0, .ref (k 0), .ref (k 0), .int 0, .int 0, .int 0, .int 0, .int 0, .int 0, .int 0])), ((u_6.1 0), .inl ((u_6.2 0), 200, .inl (fun _ => 0)))]) hP hD [9] [0, 1, 2, 3, 4, 5, 6, 7, 8] rfl rfl (by decide) (by decide) hk1 hFc hP1 hD1
  have hK := hK.app hK1
  generalize H1 = H at hP hS ⊢
  have hP : va_P (dC, dI) cls [(o, .inr (0, [.ref q_1, .ref q_3, .null, .int 0, .int 0])), (q_1, .inl (g_2, 400, .inl (fun _ => 0))), (q_3, .inr (1, [.ref q_1, .ref (u_4.1 0), .ref (u_4.1 1), .ref (u_4.1 2), .ref (u_4.1 3), .ref (u_4.1 4), .int 0, .int 0, .int 0])), ((u_4.1 0), .inl ((u_4.2 0), 401, .inl (fun _ => 0))), ((u_4.1 1), .inl ((u_4.2 1), 401, .inl (fun _ => 0))), ((u_4.1 2), .inl ((u_4.2 2), 401, .inr (.inr (.inr (.inr (fun _ => none)))))), ((u_4.1 3), .inl ((u_4.2 3), 401, .inl (fun _ => 0))), ((u_4.1 4), .inr (2, [.ref (u_4.1 5), .int 0])), ((u_4.1 5), .inl ((u_4.2 4), 200, .inl (fun _ => 0))), (q_5, .inr (3, [.ref q_3, .ref (u_6.1 0), .int 0, .int 0, .int 0, .ref (k 0), .ref (k 0), .int 0, .int 0, .int 0, .int 0, .int 0, .int 0, .int 0])), ((u_6.1 0), .inl ((u_6.2 0), 200, .inl (fun _ => 0)))] H := hP
  have hD : va_D A [(o, .inr (0, [.ref q_1, .ref q_3, .null, .int 0, .int 0])), (q_1, .inl (g_2, 400, .inl (fun _ => 0))), (q_3, .inr (1, [.ref q_1, .ref (u_4.1 0), .ref (u_4.1 1), .ref (u_4.1 2), .ref (u_4.1 3), .ref (u_4.1 4), .int 0, .int 0, .int 0])), ((u_4.1 0), .inl ((u_4.2 0), 401, .inl (fun _ => 0))), ((u_4.1 1), .inl ((u_4.2 1), 401, .inl (fun _ => 0))), ((u_4.1 2), .inl ((u_4.2 2), 401, .inr (.inr (.inr (.inr (fun _ => none)))))), ((u_4.1 3), .inl ((u_4.2 3), 401, .inl (fun _ => 0))), ((u_4.1 4), .inr (2, [.ref (u_4.1 5), .int 0])), ((u_4.1 5), .inl ((u_4.2 4), 200, .inl (fun _ => 0))), (q_5, .inr (3, [.ref q_3, .ref (u_6.1 0), .int 0, .int 0, .int 0, .ref (k 0), .ref (k 0), .int 0, .int 0, .int 0, .int 0, .int 0, .int 0, .int 0])), ((u_6.1 0), .inl ((u_6.2 0), 200, .inl (fun _ => 0)))] := hD
  have hK : va_K (dC, dI) cls [(g_2, .byte), ((u_4.2 0), .int), ((u_4.2 1), .int), ((u_4.2 2), .object "SieveDesk$Word"), ((u_4.2 3), .int), ((u_4.2 4), .byte), ((u_6.2 0), .char)] s := hK
  refine W.widen (k := 10) (n := 2429) (by decide) (by decide) ?_
  refine va_putF (D := (dC, dI)) (ci := 0) (v := .ref q_5) (ty := .object "SieveDesk$Grammar") (C := "SieveDesk") (T := F_S) (N := 5) hx hb ht i_S ty_S ty_S_ok n_S hown hK hP hD hS 0 rfl rfl 2 (by decide) (ht _ k_209) (fun _ h9 => h9) rfl hin rfl (ty_S_ok 2 (by decide)) rfl rfl (Nat.le_of_ble_eq_true rfl) d_S_init_40 (fun H locs hP hD hS => ?_)
  have hP : va_P (dC, dI) cls [(o, .inr (0, [.ref q_1, .ref q_3, .ref q_5, .int 0, .int 0])), (q_1, .inl (g_2, 400, .inl (fun _ => 0))), (q_3, .inr (1, [.ref q_1, .ref (u_4.1 0), .ref (u_4.1 1), .ref (u_4.1 2), .ref (u_4.1 3), .ref (u_4.1 4), .int 0, .int 0, .int 0])), ((u_4.1 0), .inl ((u_4.2 0), 401, .inl (fun _ => 0))), ((u_4.1 1), .inl ((u_4.2 1), 401, .inl (fun _ => 0))), ((u_4.1 2), .inl ((u_4.2 2), 401, .inr (.inr (.inr (.inr (fun _ => none)))))), ((u_4.1 3), .inl ((u_4.2 3), 401, .inl (fun _ => 0))), ((u_4.1 4), .inr (2, [.ref (u_4.1 5), .int 0])), ((u_4.1 5), .inl ((u_4.2 4), 200, .inl (fun _ => 0))), (q_5, .inr (3, [.ref q_3, .ref (u_6.1 0), .int 0, .int 0, .int 0, .ref (k 0), .ref (k 0), .int 0, .int 0, .int 0, .int 0, .int 0, .int 0, .int 0])), ((u_6.1 0), .inl ((u_6.2 0), 200, .inl (fun _ => 0)))] H := hP
  have hD : va_D A [(o, .inr (0, [.ref q_1, .ref q_3, .ref q_5, .int 0, .int 0])), (q_1, .inl (g_2, 400, .inl (fun _ => 0))), (q_3, .inr (1, [.ref q_1, .ref (u_4.1 0), .ref (u_4.1 1), .ref (u_4.1 2), .ref (u_4.1 3), .ref (u_4.1 4), .int 0, .int 0, .int 0])), ((u_4.1 0), .inl ((u_4.2 0), 401, .inl (fun _ => 0))), ((u_4.1 1), .inl ((u_4.2 1), 401, .inl (fun _ => 0))), ((u_4.1 2), .inl ((u_4.2 2), 401, .inr (.inr (.inr (.inr (fun _ => none)))))), ((u_4.1 3), .inl ((u_4.2 3), 401, .inl (fun _ => 0))), ((u_4.1 4), .inr (2, [.ref (u_4.1 5), .int 0])), ((u_4.1 5), .inl ((u_4.2 4), 200, .inl (fun _ => 0))), (q_5, .inr (3, [.ref q_3, .ref (u_6.1 0), .int 0, .int 0, .int 0, .ref (k 0), .ref (k 0), .int 0, .int 0, .int 0, .int 0, .int 0, .int 0, .int 0])), ((u_6.1 0), .inl ((u_6.2 0), 200, .inl (fun _ => 0)))] := hD
  refine lv_aload_n hx hb d_S_init_43 rfl (lv_at hl 0 rfl) ?_
  refine lv_iconst (v := 0) hx hb d_S_init_44 (by decide) ?_
  refine va_put (D := (dC, dI)) (ci := 0) (v := .int 0) (ty := .int) (C := "SieveDesk") (T := F_S) (N := 5) hx hb ht i_S ty_S ty_S_ok n_S hown hK hP hD hS 0 rfl rfl 3 (by decide) (ht _ k_210) (fun _ h9 => h9) rfl (ty_S_ok 3 (by decide)) rfl rfl (Nat.le_of_ble_eq_true rfl) d_S_init_45 (fun H locs hP hD hS => ?_)
  have hP : va_P (dC, dI) cls [(o, .inr (0, [.ref q_1, .ref q_3, .ref q_5, .int 0, .int 0])), (q_1, .inl (g_2, 400, .inl (fun _ => 0))), (q_3, .inr (1, [.ref q_1, .ref (u_4.1 0), .ref (u_4.1 1), .ref (u_4.1 2), .ref (u_4.1 3), .ref (u_4.1 4), .int 0, .int 0, .int 0])), ((u_4.1 0), .inl ((u_4.2 0), 401, .inl (fun _ => 0))), ((u_4.1 1), .inl ((u_4.2 1), 401, .inl (fun _ => 0))), ((u_4.1 2), .inl ((u_4.2 2), 401, .inr (.inr (.inr (.inr (fun _ => none)))))), ((u_4.1 3), .inl ((u_4.2 3), 401, .inl (fun _ => 0))), ((u_4.1 4), .inr (2, [.ref (u_4.1 5), .int 0])), ((u_4.1 5), .inl ((u_4.2 4), 200, .inl (fun _ => 0))), (q_5, .inr (3, [.ref q_3, .ref (u_6.1 0), .int 0, .int 0, .int 0, .ref (k 0), .ref (k 0), .int 0, .int 0, .int 0, .int 0, .int 0, .int 0, .int 0])), ((u_6.1 0), .inl ((u_6.2 0), 200, .inl (fun _ => 0)))] H := hP
  have hD : va_D A [(o, .inr (0, [.ref q_1, .ref q_3, .ref q_5, .int 0, .int 0])), (q_1, .inl (g_2, 400, .inl (fun _ => 0))), (q_3, .inr (1, [.ref q_1, .ref (u_4.1 0), .ref (u_4.1 1), .ref (u_4.1 2), .ref (u_4.1 3), .ref (u_4.1 4), .int 0, .int 0, .int 0])), ((u_4.1 0), .inl ((u_4.2 0), 401, .inl (fun _ => 0))), ((u_4.1 1), .inl ((u_4.2 1), 401, .inl (fun _ => 0))), ((u_4.1 2), .inl ((u_4.2 2), 401, .inr (.inr (.inr (.inr (fun _ => none)))))), ((u_4.1 3), .inl ((u_4.2 3), 401, .inl (fun _ => 0))), ((u_4.1 4), .inr (2, [.ref (u_4.1 5), .int 0])), ((u_4.1 5), .inl ((u_4.2 4), 200, .inl (fun _ => 0))), (q_5, .inr (3, [.ref q_3, .ref (u_6.1 0), .int 0, .int 0, .int 0, .ref (k 0), .ref (k 0), .int 0, .int 0, .int 0, .int 0, .int 0, .int 0, .int 0])), ((u_6.1 0), .inl ((u_6.2 0), 200, .inl (fun _ => 0)))] := hD
  refine lv_aload_n hx hb d_S_init_48 rfl (lv_at hl 0 rfl) ?_
  refine lv_iconst (v := (-1)) hx hb d_S_init_49 (by decide) ?_
  refine va_put (D := (dC, dI)) (ci := 0) (v := .int (-1)) (ty := .int) (C := "SieveDesk") (T := F_S) (N := 5) hx hb ht i_S ty_S ty_S_ok n_S hown hK hP hD hS 0 rfl rfl 4 (by decide) (ht _ k_211) (fun _ h9 => h9) rfl (ty_S_ok 4 (by decide)) rfl rfl (Nat.le_of_ble_eq_true rfl) d_S_init_50 (fun H locs hP hD hS => ?_)
  have hP : va_P (dC, dI) cls [(o, .inr (0, [.ref q_1, .ref q_3, .ref q_5, .int 0, .int (-1)])), (q_1, .inl (g_2, 400, .inl (fun _ => 0))), (q_3, .inr (1, [.ref q_1, .ref (u_4.1 0), .ref (u_4.1 1), .ref (u_4.1 2), .ref (u_4.1 3), .ref (u_4.1 4), .int 0, .int 0, .int 0])), ((u_4.1 0), .inl ((u_4.2 0), 401, .inl (fun _ => 0))), ((u_4.1 1), .inl ((u_4.2 1), 401, .inl (fun _ => 0))), ((u_4.1 2), .inl ((u_4.2 2), 401, .inr (.inr (.inr (.inr (fun _ => none)))))), ((u_4.1 3), .inl ((u_4.2 3), 401, .inl (fun _ => 0))), ((u_4.1 4), .inr (2, [.ref (u_4.1 5), .int 0])), ((u_4.1 5), .inl ((u_4.2 4), 200, .inl (fun _ => 0))), (q_5, .inr (3, [.ref q_3, .ref (u_6.1 0), .int 0, .int 0, .int 0, .ref (k 0), .ref (k 0), .int 0, .int 0, .int 0, .int 0, .int 0, .int 0, .int 0])), ((u_6.1 0), .inl ((u_6.2 0), 200, .inl (fun _ => 0)))] H := hP
  have hD : va_D A [(o, .inr (0, [.ref q_1, .ref q_3, .ref q_5, .int 0, .int (-1)])), (q_1, .inl (g_2, 400, .inl (fun _ => 0))), (q_3, .inr (1, [.ref q_1, .ref (u_4.1 0), .ref (u_4.1 1), .ref (u_4.1 2), .ref (u_4.1 3), .ref (u_4.1 4), .int 0, .int 0, .int 0])), ((u_4.1 0), .inl ((u_4.2 0), 401, .inl (fun _ => 0))), ((u_4.1 1), .inl ((u_4.2 1), 401, .inl (fun _ => 0))), ((u_4.1 2), .inl ((u_4.2 2), 401, .inr (.inr (.inr (.inr (fun _ => none)))))), ((u_4.1 3), .inl ((u_4.2 3), 401, .inl (fun _ => 0))), ((u_4.1 4), .inr (2, [.ref (u_4.1 5), .int 0])), ((u_4.1 5), .inl ((u_4.2 4), 200, .inl (fun _ => 0))), (q_5, .inr (3, [.ref q_3, .ref (u_6.1 0), .int 0, .int 0, .int 0, .ref (k 0), .ref (k 0), .int 0, .int 0, .int 0, .int 0, .int 0, .int 0, .int 0])), ((u_6.1 0), .inl ((u_6.2 0), 200, .inl (fun _ => 0)))] := hD
  exact W.vret hx hb hr (fun t het hW => ⟨⟨((fun i => match i with | 0 => q_1 | 1 => q_3 | 2 => (u_4.1 0) | 3 => (u_4.1 1) | 4 => (u_4.1 2) | 5 => (u_4.1 3) | 6 => (u_4.1 4) | 7 => (u_4.1 5) | 8 => q_5 | 9 => (u_6.1 0) | _ => 0), (fun i => match i with | 0 => g_2 | 1 => (u_4.2 0) | 2 => (u_4.2 1) | 3 => (u_4.2 2) | 4 => (u_4.2 3) | 5 => (u_4.2 4) | _ => (u_6.2 0))), rfl, trivial, by rw [het]; exact hP, va_K.moved hW.alike hK, hD⟩, hS.F het⟩) hS.2.2 d_S_init_53
end
