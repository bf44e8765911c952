section
-- ===== PART A: goes FIRST, ahead of the names: the tables' words, and 'selects' of the private methods out of them =====
/-- a private method of a class that the tables say can be made, by its rows of tables_1 -/
def lw_okq (q : MethodName × Nat) : Prop := (q.1.cls ≠ "java/lang/invoke/MethodHandle" ∧ q.1.cls ≠ "java/lang/invoke/VarHandle") ∧ Cond.instantiable q.1.cls q.2 ∈ tables_1 ∧ Cond.privateMethod q.1 ∈ tables_1 ∧ Cond.instanceMethod q.1 ∈ tables_1
theorem lw_p0 : lw_okq (⟨"SieveDesk$Tokens", "scan", "(I)V"⟩, 9) := ⟨⟨by decide +kernel, by decide +kernel⟩, List.mem_of_getElem? (i := 24) (by decide +kernel), List.mem_of_getElem? (i := 159) (by decide +kernel), List.mem_of_getElem? (i := 160) (by decide +kernel)⟩
theorem lw_p1 : lw_okq (⟨"SieveDesk$Tokens", "skipGap", "()V"⟩, 9) := ⟨⟨by decide +kernel, by decide +kernel⟩, List.mem_of_getElem? (i := 24) (by decide +kernel), List.mem_of_getElem? (i := 163) (by decide +kernel), List.mem_of_getElem? (i := 164) (by decide +kernel)⟩
theorem lw_p2 : lw_okq (⟨"SieveDesk$Tokens", "byteAt", "(I)I"⟩, 9) := ⟨⟨by decide +kernel, by decide +kernel⟩, List.mem_of_getElem? (i := 24) (by decide +kernel), List.mem_of_getElem? (i := 167) (by decide +kernel), List.mem_of_getElem? (i := 168) (by decide +kernel)⟩
theorem lw_p3 : lw_okq (⟨"SieveDesk$Tokens", "behindLine", "(I)I"⟩, 9) := ⟨⟨by decide +kernel, by decide +kernel⟩, List.mem_of_getElem? (i := 24) (by decide +kernel), List.mem_of_getElem? (i := 171) (by decide +kernel), List.mem_of_getElem? (i := 172) (by decide +kernel)⟩
theorem lw_p4 : lw_okq (⟨"SieveDesk$Tokens", "behindComment", "(I)I"⟩, 9) := ⟨⟨by decide +kernel, by decide +kernel⟩, List.mem_of_getElem? (i := 24) (by decide +kernel), List.mem_of_getElem? (i := 175) (by decide +kernel), List.mem_of_getElem? (i := 176) (by decide +kernel)⟩
theorem lw_p5 : lw_okq (⟨"SieveDesk$Tokens", "add", "(ILSieveDesk$Word;II)V"⟩, 9) := ⟨⟨by decide +kernel, by decide +kernel⟩, List.mem_of_getElem? (i := 24) (by decide +kernel), List.mem_of_getElem? (i := 180) (by decide +kernel), List.mem_of_getElem? (i := 181) (by decide +kernel)⟩
theorem lw_p6 : lw_okq (⟨"SieveDesk$Tokens", "scanToken", "()Z"⟩, 9) := ⟨⟨by decide +kernel, by decide +kernel⟩, List.mem_of_getElem? (i := 24) (by decide +kernel), List.mem_of_getElem? (i := 184) (by decide +kernel), List.mem_of_getElem? (i := 185) (by decide +kernel)⟩
theorem lw_p7 : lw_okq (⟨"SieveDesk$Tokens", "scanWord", "()Z"⟩, 9) := ⟨⟨by decide +kernel, by decide +kernel⟩, List.mem_of_getElem? (i := 24) (by decide +kernel), List.mem_of_getElem? (i := 194) (by decide +kernel), List.mem_of_getElem? (i := 195) (by decide +kernel)⟩
theorem lw_p8 : lw_okq (⟨"SieveDesk$Tokens", "wordEnd", "(I)I"⟩, 9) := ⟨⟨by decide +kernel, by decide +kernel⟩, List.mem_of_getElem? (i := 24) (by decide +kernel), List.mem_of_getElem? (i := 198) (by decide +kernel), List.mem_of_getElem? (i := 199) (by decide +kernel)⟩
theorem lw_p9 : lw_okq (⟨"SieveDesk$Tokens", "scanText", "(I)Z"⟩, 9) := ⟨⟨by decide +kernel, by decide +kernel⟩, List.mem_of_getElem? (i := 24) (by decide +kernel), List.mem_of_getElem? (i := 260) (by decide +kernel), List.mem_of_getElem? (i := 261) (by decide +kernel)⟩
theorem lw_p10 : lw_okq (⟨"SieveDesk$Tokens", "behindLineEnd", "(I)I"⟩, 9) := ⟨⟨by decide +kernel, by decide +kernel⟩, List.mem_of_getElem? (i := 24) (by decide +kernel), List.mem_of_getElem? (i := 264) (by decide +kernel), List.mem_of_getElem? (i := 265) (by decide +kernel)⟩
theorem lw_p11 : lw_okq (⟨"SieveDesk$Tokens", "scanTag", "()Z"⟩, 9) := ⟨⟨by decide +kernel, by decide +kernel⟩, List.mem_of_getElem? (i := 24) (by decide +kernel), List.mem_of_getElem? (i := 275) (by decide +kernel), List.mem_of_getElem? (i := 276) (by decide +kernel)⟩
theorem lw_p12 : lw_okq (⟨"SieveDesk$Tokens", "scanNumber", "()Z"⟩, 9) := ⟨⟨by decide +kernel, by decide +kernel⟩, List.mem_of_getElem? (i := 24) (by decide +kernel), List.mem_of_getElem? (i := 280) (by decide +kernel), List.mem_of_getElem? (i := 281) (by decide +kernel)⟩
theorem lw_p13 : lw_okq (⟨"SieveDesk$Tokens", "scanQuoted", "()Z"⟩, 9) := ⟨⟨by decide +kernel, by decide +kernel⟩, List.mem_of_getElem? (i := 24) (by decide +kernel), List.mem_of_getElem? (i := 294) (by decide +kernel), List.mem_of_getElem? (i := 295) (by decide +kernel)⟩
theorem lw_p14 : lw_okq (⟨"SieveDesk$Quoted", "empty", "()V"⟩, 2) := ⟨⟨by decide +kernel, by decide +kernel⟩, List.mem_of_getElem? (i := 32) (by decide +kernel), List.mem_of_getElem? (i := 298) (by decide +kernel), List.mem_of_getElem? (i := 299) (by decide +kernel)⟩
theorem lw_p15 : lw_okq (⟨"SieveDesk$Quoted", "says", "()I"⟩, 2) := ⟨⟨by decide +kernel, by decide +kernel⟩, List.mem_of_getElem? (i := 32) (by decide +kernel), List.mem_of_getElem? (i := 302) (by decide +kernel), List.mem_of_getElem? (i := 303) (by decide +kernel)⟩
def lw_privs_1 : List (MethodName × Nat) := [(⟨"SieveDesk$Tokens", "scan", "(I)V"⟩, 9), (⟨"SieveDesk$Tokens", "skipGap", "()V"⟩, 9), (⟨"SieveDesk$Tokens", "byteAt", "(I)I"⟩, 9), (⟨"SieveDesk$Tokens", "behindLine", "(I)I"⟩, 9), (⟨"SieveDesk$Tokens", "behindComment", "(I)I"⟩, 9), (⟨"SieveDesk$Tokens", "add", "(ILSieveDesk$Word;II)V"⟩, 9), (⟨"SieveDesk$Tokens", "scanToken", "()Z"⟩, 9), (⟨"SieveDesk$Tokens", "scanWord", "()Z"⟩, 9), (⟨"SieveDesk$Tokens", "wordEnd", "(I)I"⟩, 9), (⟨"SieveDesk$Tokens", "scanText", "(I)Z"⟩, 9), (⟨"SieveDesk$Tokens", "behindLineEnd", "(I)I"⟩, 9), (⟨"SieveDesk$Tokens", "scanTag", "()Z"⟩, 9), (⟨"SieveDesk$Tokens", "scanNumber", "()Z"⟩, 9), (⟨"SieveDesk$Tokens", "scanQuoted", "()Z"⟩, 9), (⟨"SieveDesk$Quoted", "empty", "()V"⟩, 2), (⟨"SieveDesk$Quoted", "says", "()I"⟩, 2)]
theorem lw_r1 : ∀ q ∈ lw_privs_1, lw_okq q := List.forall_mem_cons.mpr ⟨lw_p0, List.forall_mem_cons.mpr ⟨lw_p1, List.forall_mem_cons.mpr ⟨lw_p2, List.forall_mem_cons.mpr ⟨lw_p3, List.forall_mem_cons.mpr ⟨lw_p4, List.forall_mem_cons.mpr ⟨lw_p5, List.forall_mem_cons.mpr ⟨lw_p6, List.forall_mem_cons.mpr ⟨lw_p7, List.forall_mem_cons.mpr ⟨lw_p8, List.forall_mem_cons.mpr ⟨lw_p9, List.forall_mem_cons.mpr ⟨lw_p10, List.forall_mem_cons.mpr ⟨lw_p11, List.forall_mem_cons.mpr ⟨lw_p12, List.forall_mem_cons.mpr ⟨lw_p13, List.forall_mem_cons.mpr ⟨lw_p14, List.forall_mem_cons.mpr ⟨lw_p15, fun _ h => absurd h List.not_mem_nil⟩⟩⟩⟩⟩⟩⟩⟩⟩⟩⟩⟩⟩⟩⟩⟩
theorem lw_p16 : lw_okq (⟨"SieveDesk$Quoted", "isMailbox", "()Z"⟩, 2) := ⟨⟨by decide +kernel, by decide +kernel⟩, List.mem_of_getElem? (i := 32) (by decide +kernel), List.mem_of_getElem? (i := 306) (by decide +kernel), List.mem_of_getElem? (i := 307) (by decide +kernel)⟩
theorem lw_p17 : lw_okq (⟨"SieveDesk$Quoted", "isAddress", "()Z"⟩, 2) := ⟨⟨by decide +kernel, by decide +kernel⟩, List.mem_of_getElem? (i := 32) (by decide +kernel), List.mem_of_getElem? (i := 310) (by decide +kernel), List.mem_of_getElem? (i := 311) (by decide +kernel)⟩
theorem lw_p18 : lw_okq (⟨"SieveDesk$Quoted", "isDotted", "(IIILjava/lang/String;)Z"⟩, 2) := ⟨⟨by decide +kernel, by decide +kernel⟩, List.mem_of_getElem? (i := 32) (by decide +kernel), List.mem_of_getElem? (i := 315) (by decide +kernel), List.mem_of_getElem? (i := 316) (by decide +kernel)⟩
theorem lw_p19 : lw_okq (⟨"SieveDesk$Quoted", "add", "(I)Z"⟩, 2) := ⟨⟨by decide +kernel, by decide +kernel⟩, List.mem_of_getElem? (i := 32) (by decide +kernel), List.mem_of_getElem? (i := 384) (by decide +kernel), List.mem_of_getElem? (i := 385) (by decide +kernel)⟩
theorem lw_p20 : lw_okq (⟨"SieveDesk$Grammar", "reads", "()Z"⟩, 14) := ⟨⟨by decide +kernel, by decide +kernel⟩, List.mem_of_getElem? (i := 80) (by decide +kernel), List.mem_of_getElem? (i := 390) (by decide +kernel), List.mem_of_getElem? (i := 391) (by decide +kernel)⟩
theorem lw_p21 : lw_okq (⟨"SieveDesk$Grammar", "advance", "()V"⟩, 14) := ⟨⟨by decide +kernel, by decide +kernel⟩, List.mem_of_getElem? (i := 80) (by decide +kernel), List.mem_of_getElem? (i := 394) (by decide +kernel), List.mem_of_getElem? (i := 395) (by decide +kernel)⟩
theorem lw_p22 : lw_okq (⟨"SieveDesk$Grammar", "expect", "(Ljava/lang/String;)V"⟩, 14) := ⟨⟨by decide +kernel, by decide +kernel⟩, List.mem_of_getElem? (i := 80) (by decide +kernel), List.mem_of_getElem? (i := 399) (by decide +kernel), List.mem_of_getElem? (i := 400) (by decide +kernel)⟩
theorem lw_p23 : lw_okq (⟨"SieveDesk$Grammar", "take", "(C)Z"⟩, 14) := ⟨⟨by decide +kernel, by decide +kernel⟩, List.mem_of_getElem? (i := 80) (by decide +kernel), List.mem_of_getElem? (i := 405) (by decide +kernel), List.mem_of_getElem? (i := 406) (by decide +kernel)⟩
theorem lw_p24 : lw_okq (⟨"SieveDesk$Grammar", "follow", "(LSieveDesk$Word;)Z"⟩, 14) := ⟨⟨by decide +kernel, by decide +kernel⟩, List.mem_of_getElem? (i := 80) (by decide +kernel), List.mem_of_getElem? (i := 411) (by decide +kernel), List.mem_of_getElem? (i := 412) (by decide +kernel)⟩
theorem lw_p25 : lw_okq (⟨"SieveDesk$Grammar", "takeCommands", "()Z"⟩, 14) := ⟨⟨by decide +kernel, by decide +kernel⟩, List.mem_of_getElem? (i := 80) (by decide +kernel), List.mem_of_getElem? (i := 415) (by decide +kernel), List.mem_of_getElem? (i := 416) (by decide +kernel)⟩
theorem lw_p26 : lw_okq (⟨"SieveDesk$Grammar", "begin", "()Z"⟩, 14) := ⟨⟨by decide +kernel, by decide +kernel⟩, List.mem_of_getElem? (i := 80) (by decide +kernel), List.mem_of_getElem? (i := 422) (by decide +kernel), List.mem_of_getElem? (i := 423) (by decide +kernel)⟩
theorem lw_p27 : lw_okq (⟨"SieveDesk$Grammar", "lacks", "(I)Z"⟩, 14) := ⟨⟨by decide +kernel, by decide +kernel⟩, List.mem_of_getElem? (i := 80) (by decide +kernel), List.mem_of_getElem? (i := 426) (by decide +kernel), List.mem_of_getElem? (i := 427) (by decide +kernel)⟩
theorem lw_p28 : lw_okq (⟨"SieveDesk$Grammar", "takeTest", "()Z"⟩, 14) := ⟨⟨by decide +kernel, by decide +kernel⟩, List.mem_of_getElem? (i := 80) (by decide +kernel), List.mem_of_getElem? (i := 430) (by decide +kernel), List.mem_of_getElem? (i := 431) (by decide +kernel)⟩
theorem lw_p29 : lw_okq (⟨"SieveDesk$Grammar", "takeMoreTests", "()Z"⟩, 14) := ⟨⟨by decide +kernel, by decide +kernel⟩, List.mem_of_getElem? (i := 80) (by decide +kernel), List.mem_of_getElem? (i := 435) (by decide +kernel), List.mem_of_getElem? (i := 436) (by decide +kernel)⟩
theorem lw_p30 : lw_okq (⟨"SieveDesk$Grammar", "takeTags", "()Z"⟩, 14) := ⟨⟨by decide +kernel, by decide +kernel⟩, List.mem_of_getElem? (i := 80) (by decide +kernel), List.mem_of_getElem? (i := 444) (by decide +kernel), List.mem_of_getElem? (i := 445) (by decide +kernel)⟩
theorem lw_p31 : lw_okq (⟨"SieveDesk$Grammar", "takeKind", "(I)Z"⟩, 14) := ⟨⟨by decide +kernel, by decide +kernel⟩, List.mem_of_getElem? (i := 80) (by decide +kernel), List.mem_of_getElem? (i := 453) (by decide +kernel), List.mem_of_getElem? (i := 454) (by decide +kernel)⟩
def lw_privs_2 : List (MethodName × Nat) := [(⟨"SieveDesk$Quoted", "isMailbox", "()Z"⟩, 2), (⟨"SieveDesk$Quoted", "isAddress", "()Z"⟩, 2), (⟨"SieveDesk$Quoted", "isDotted", "(IIILjava/lang/String;)Z"⟩, 2), (⟨"SieveDesk$Quoted", "add", "(I)Z"⟩, 2), (⟨"SieveDesk$Grammar", "reads", "()Z"⟩, 14), (⟨"SieveDesk$Grammar", "advance", "()V"⟩, 14), (⟨"SieveDesk$Grammar", "expect", "(Ljava/lang/String;)V"⟩, 14), (⟨"SieveDesk$Grammar", "take", "(C)Z"⟩, 14), (⟨"SieveDesk$Grammar", "follow", "(LSieveDesk$Word;)Z"⟩, 14), (⟨"SieveDesk$Grammar", "takeCommands", "()Z"⟩, 14), (⟨"SieveDesk$Grammar", "begin", "()Z"⟩, 14), (⟨"SieveDesk$Grammar", "lacks", "(I)Z"⟩, 14), (⟨"SieveDesk$Grammar", "takeTest", "()Z"⟩, 14), (⟨"SieveDesk$Grammar", "takeMoreTests", "()Z"⟩, 14), (⟨"SieveDesk$Grammar", "takeTags", "()Z"⟩, 14), (⟨"SieveDesk$Grammar", "takeKind", "(I)Z"⟩, 14)]
theorem lw_r2 : ∀ q ∈ lw_privs_2, lw_okq q := List.forall_mem_cons.mpr ⟨lw_p16, List.forall_mem_cons.mpr ⟨lw_p17, List.forall_mem_cons.mpr ⟨lw_p18, List.forall_mem_cons.mpr ⟨lw_p19, List.forall_mem_cons.mpr ⟨lw_p20, List.forall_mem_cons.mpr ⟨lw_p21, List.forall_mem_cons.mpr ⟨lw_p22, List.forall_mem_cons.mpr ⟨lw_p23, List.forall_mem_cons.mpr ⟨lw_p24, List.forall_mem_cons.mpr ⟨lw_p25, List.forall_mem_cons.mpr ⟨lw_p26, List.forall_mem_cons.mpr ⟨lw_p27, List.forall_mem_cons.mpr ⟨lw_p28, List.forall_mem_cons.mpr ⟨lw_p29, List.forall_mem_cons.mpr ⟨lw_p30, List.forall_mem_cons.mpr ⟨lw_p31, fun _ h => absurd h List.not_mem_nil⟩⟩⟩⟩⟩⟩⟩⟩⟩⟩⟩⟩⟩⟩⟩⟩
theorem lw_p32 : lw_okq (⟨"SieveDesk$Grammar", "takeString", "(I)Z"⟩, 14) := ⟨⟨by decide +kernel, by decide +kernel⟩, List.mem_of_getElem? (i := 80) (by decide +kernel), List.mem_of_getElem? (i := 457) (by decide +kernel), List.mem_of_getElem? (i := 458) (by decide +kernel)⟩
theorem lw_p33 : lw_okq (⟨"SieveDesk$Grammar", "takeStrings", "(I)Z"⟩, 14) := ⟨⟨by decide +kernel, by decide +kernel⟩, List.mem_of_getElem? (i := 80) (by decide +kernel), List.mem_of_getElem? (i := 461) (by decide +kernel), List.mem_of_getElem? (i := 462) (by decide +kernel)⟩
theorem lw_p34 : lw_okq (⟨"SieveDesk$Grammar", "takeSign", "(C)Z"⟩, 14) := ⟨⟨by decide +kernel, by decide +kernel⟩, List.mem_of_getElem? (i := 80) (by decide +kernel), List.mem_of_getElem? (i := 465) (by decide +kernel), List.mem_of_getElem? (i := 466) (by decide +kernel)⟩
theorem lw_p35 : lw_okq (⟨"SieveDesk$Grammar", "standsAt", "()I"⟩, 14) := ⟨⟨by decide +kernel, by decide +kernel⟩, List.mem_of_getElem? (i := 80) (by decide +kernel), List.mem_of_getElem? (i := 469) (by decide +kernel), List.mem_of_getElem? (i := 470) (by decide +kernel)⟩
theorem lw_p36 : lw_okq (⟨"SieveDesk", "lineOf", "(I)I"⟩, 5) := ⟨⟨by decide +kernel, by decide +kernel⟩, List.mem_of_getElem? (i := 16) (by decide +kernel), List.mem_of_getElem? (i := 473) (by decide +kernel), List.mem_of_getElem? (i := 474) (by decide +kernel)⟩
theorem lw_p37 : lw_okq (⟨"SieveDeskModel", "next", "()V"⟩, 19) := ⟨⟨by decide +kernel, by decide +kernel⟩, List.mem_of_getElem? (i := 485) (by decide +kernel), List.mem_of_getElem? (i := 622) (by decide +kernel), List.mem_of_getElem? (i := 623) (by decide +kernel)⟩
theorem lw_p38 : lw_okq (⟨"SieveDeskModel", "skip", "()Z"⟩, 19) := ⟨⟨by decide +kernel, by decide +kernel⟩, List.mem_of_getElem? (i := 485) (by decide +kernel), List.mem_of_getElem? (i := 626) (by decide +kernel), List.mem_of_getElem? (i := 627) (by decide +kernel)⟩
theorem lw_p39 : lw_okq (⟨"SieveDeskModel", "peek", "(I)I"⟩, 19) := ⟨⟨by decide +kernel, by decide +kernel⟩, List.mem_of_getElem? (i := 485) (by decide +kernel), List.mem_of_getElem? (i := 630) (by decide +kernel), List.mem_of_getElem? (i := 631) (by decide +kernel)⟩
theorem lw_p40 : lw_okq (⟨"SieveDeskModel", "token", "()I"⟩, 19) := ⟨⟨by decide +kernel, by decide +kernel⟩, List.mem_of_getElem? (i := 485) (by decide +kernel), List.mem_of_getElem? (i := 634) (by decide +kernel), List.mem_of_getElem? (i := 635) (by decide +kernel)⟩
theorem lw_p41 : lw_okq (⟨"SieveDeskModel", "begin", "()V"⟩, 19) := ⟨⟨by decide +kernel, by decide +kernel⟩, List.mem_of_getElem? (i := 485) (by decide +kernel), List.mem_of_getElem? (i := 638) (by decide +kernel), List.mem_of_getElem? (i := 639) (by decide +kernel)⟩
theorem lw_p42 : lw_okq (⟨"SieveDeskModel", "wordOf", "()V"⟩, 19) := ⟨⟨by decide +kernel, by decide +kernel⟩, List.mem_of_getElem? (i := 485) (by decide +kernel), List.mem_of_getElem? (i := 645) (by decide +kernel), List.mem_of_getElem? (i := 646) (by decide +kernel)⟩
theorem lw_p43 : lw_okq (⟨"SieveDeskModel", "add", "(I)V"⟩, 19) := ⟨⟨by decide +kernel, by decide +kernel⟩, List.mem_of_getElem? (i := 485) (by decide +kernel), List.mem_of_getElem? (i := 655) (by decide +kernel), List.mem_of_getElem? (i := 656) (by decide +kernel)⟩
theorem lw_p44 : lw_okq (⟨"SieveDeskModel", "like", "(I)Z"⟩, 19) := ⟨⟨by decide +kernel, by decide +kernel⟩, List.mem_of_getElem? (i := 485) (by decide +kernel), List.mem_of_getElem? (i := 662) (by decide +kernel), List.mem_of_getElem? (i := 663) (by decide +kernel)⟩
theorem lw_p45 : lw_okq (⟨"SieveDeskModel", "which", "(II)I"⟩, 19) := ⟨⟨by decide +kernel, by decide +kernel⟩, List.mem_of_getElem? (i := 485) (by decide +kernel), List.mem_of_getElem? (i := 666) (by decide +kernel), List.mem_of_getElem? (i := 667) (by decide +kernel)⟩
theorem lw_p46 : lw_okq (⟨"SieveDeskModel", "lines", "()I"⟩, 19) := ⟨⟨by decide +kernel, by decide +kernel⟩, List.mem_of_getElem? (i := 485) (by decide +kernel), List.mem_of_getElem? (i := 670) (by decide +kernel), List.mem_of_getElem? (i := 671) (by decide +kernel)⟩
theorem lw_p47 : lw_okq (⟨"SieveDeskModel", "endAt", "(I)I"⟩, 19) := ⟨⟨by decide +kernel, by decide +kernel⟩, List.mem_of_getElem? (i := 485) (by decide +kernel), List.mem_of_getElem? (i := 674) (by decide +kernel), List.mem_of_getElem? (i := 675) (by decide +kernel)⟩
def lw_privs_3 : List (MethodName × Nat) := [(⟨"SieveDesk$Grammar", "takeString", "(I)Z"⟩, 14), (⟨"SieveDesk$Grammar", "takeStrings", "(I)Z"⟩, 14), (⟨"SieveDesk$Grammar", "takeSign", "(C)Z"⟩, 14), (⟨"SieveDesk$Grammar", "standsAt", "()I"⟩, 14), (⟨"SieveDesk", "lineOf", "(I)I"⟩, 5), (⟨"SieveDeskModel", "next", "()V"⟩, 19), (⟨"SieveDeskModel", "skip", "()Z"⟩, 19), (⟨"SieveDeskModel", "peek", "(I)I"⟩, 19), (⟨"SieveDeskModel", "token", "()I"⟩, 19), (⟨"SieveDeskModel", "begin", "()V"⟩, 19), (⟨"SieveDeskModel", "wordOf", "()V"⟩, 19), (⟨"SieveDeskModel", "add", "(I)V"⟩, 19), (⟨"SieveDeskModel", "like", "(I)Z"⟩, 19), (⟨"SieveDeskModel", "which", "(II)I"⟩, 19), (⟨"SieveDeskModel", "lines", "()I"⟩, 19), (⟨"SieveDeskModel", "endAt", "(I)I"⟩, 19)]
theorem lw_r3 : ∀ q ∈ lw_privs_3, lw_okq q := List.forall_mem_cons.mpr ⟨lw_p32, List.forall_mem_cons.mpr ⟨lw_p33, List.forall_mem_cons.mpr ⟨lw_p34, List.forall_mem_cons.mpr ⟨lw_p35, List.forall_mem_cons.mpr ⟨lw_p36, List.forall_mem_cons.mpr ⟨lw_p37, List.forall_mem_cons.mpr ⟨lw_p38, List.forall_mem_cons.mpr ⟨lw_p39, List.forall_mem_cons.mpr ⟨lw_p40, List.forall_mem_cons.mpr ⟨lw_p41, List.forall_mem_cons.mpr ⟨lw_p42, List.forall_mem_cons.mpr ⟨lw_p43, List.forall_mem_cons.mpr ⟨lw_p44, List.forall_mem_cons.mpr ⟨lw_p45, List.forall_mem_cons.mpr ⟨lw_p46, List.forall_mem_cons.mpr ⟨lw_p47, fun _ h => absurd h List.not_mem_nil⟩⟩⟩⟩⟩⟩⟩⟩⟩⟩⟩⟩⟩⟩⟩⟩
theorem lw_p48 : lw_okq (⟨"SieveDeskModel", "digits", "()I"⟩, 19) := ⟨⟨by decide +kernel, by decide +kernel⟩, List.mem_of_getElem? (i := 485) (by decide +kernel), List.mem_of_getElem? (i := 678) (by decide +kernel), List.mem_of_getElem? (i := 679) (by decide +kernel)⟩
theorem lw_p49 : lw_okq (⟨"SieveDeskModel", "quoted", "()I"⟩, 19) := ⟨⟨by decide +kernel, by decide +kernel⟩, List.mem_of_getElem? (i := 485) (by decide +kernel), List.mem_of_getElem? (i := 687) (by decide +kernel), List.mem_of_getElem? (i := 688) (by decide +kernel)⟩
theorem lw_p50 : lw_okq (⟨"SieveDeskModel", "fail", "()V"⟩, 19) := ⟨⟨by decide +kernel, by decide +kernel⟩, List.mem_of_getElem? (i := 485) (by decide +kernel), List.mem_of_getElem? (i := 691) (by decide +kernel), List.mem_of_getElem? (i := 692) (by decide +kernel)⟩
theorem lw_p51 : lw_okq (⟨"SieveDeskModel", "isWord", "(I)Z"⟩, 19) := ⟨⟨by decide +kernel, by decide +kernel⟩, List.mem_of_getElem? (i := 485) (by decide +kernel), List.mem_of_getElem? (i := 695) (by decide +kernel), List.mem_of_getElem? (i := 696) (by decide +kernel)⟩
theorem lw_p52 : lw_okq (⟨"SieveDeskModel", "is", "(I)Z"⟩, 19) := ⟨⟨by decide +kernel, by decide +kernel⟩, List.mem_of_getElem? (i := 485) (by decide +kernel), List.mem_of_getElem? (i := 699) (by decide +kernel), List.mem_of_getElem? (i := 700) (by decide +kernel)⟩
theorem lw_p53 : lw_okq (⟨"SieveDeskModel", "list", "(Z)V"⟩, 19) := ⟨⟨by decide +kernel, by decide +kernel⟩, List.mem_of_getElem? (i := 485) (by decide +kernel), List.mem_of_getElem? (i := 703) (by decide +kernel), List.mem_of_getElem? (i := 704) (by decide +kernel)⟩
theorem lw_p54 : lw_okq (⟨"SieveDeskModel", "isSign", "(I)Z"⟩, 19) := ⟨⟨by decide +kernel, by decide +kernel⟩, List.mem_of_getElem? (i := 485) (by decide +kernel), List.mem_of_getElem? (i := 707) (by decide +kernel), List.mem_of_getElem? (i := 708) (by decide +kernel)⟩
theorem lw_p55 : lw_okq (⟨"SieveDeskModel", "string", "()V"⟩, 19) := ⟨⟨by decide +kernel, by decide +kernel⟩, List.mem_of_getElem? (i := 485) (by decide +kernel), List.mem_of_getElem? (i := 711) (by decide +kernel), List.mem_of_getElem? (i := 712) (by decide +kernel)⟩
theorem lw_p56 : lw_okq (⟨"SieveDeskModel", "require", "()V"⟩, 19) := ⟨⟨by decide +kernel, by decide +kernel⟩, List.mem_of_getElem? (i := 485) (by decide +kernel), List.mem_of_getElem? (i := 715) (by decide +kernel), List.mem_of_getElem? (i := 716) (by decide +kernel)⟩
theorem lw_p57 : lw_okq (⟨"SieveDeskModel", "take", "(I)V"⟩, 19) := ⟨⟨by decide +kernel, by decide +kernel⟩, List.mem_of_getElem? (i := 485) (by decide +kernel), List.mem_of_getElem? (i := 719) (by decide +kernel), List.mem_of_getElem? (i := 720) (by decide +kernel)⟩
theorem lw_p58 : lw_okq (⟨"SieveDeskModel", "push", "(I)V"⟩, 19) := ⟨⟨by decide +kernel, by decide +kernel⟩, List.mem_of_getElem? (i := 485) (by decide +kernel), List.mem_of_getElem? (i := 723) (by decide +kernel), List.mem_of_getElem? (i := 724) (by decide +kernel)⟩
theorem lw_p59 : lw_okq (⟨"SieveDeskModel", "step", "(I)V"⟩, 19) := ⟨⟨by decide +kernel, by decide +kernel⟩, List.mem_of_getElem? (i := 485) (by decide +kernel), List.mem_of_getElem? (i := 727) (by decide +kernel), List.mem_of_getElem? (i := 728) (by decide +kernel)⟩
theorem lw_p60 : lw_okq (⟨"SieveDeskModel", "command", "()V"⟩, 19) := ⟨⟨by decide +kernel, by decide +kernel⟩, List.mem_of_getElem? (i := 485) (by decide +kernel), List.mem_of_getElem? (i := 731) (by decide +kernel), List.mem_of_getElem? (i := 732) (by decide +kernel)⟩
theorem lw_p61 : lw_okq (⟨"SieveDeskModel", "counting", "(I)V"⟩, 19) := ⟨⟨by decide +kernel, by decide +kernel⟩, List.mem_of_getElem? (i := 485) (by decide +kernel), List.mem_of_getElem? (i := 735) (by decide +kernel), List.mem_of_getElem? (i := 736) (by decide +kernel)⟩
theorem lw_p62 : lw_okq (⟨"SieveDeskModel", "needs", "(I)V"⟩, 19) := ⟨⟨by decide +kernel, by decide +kernel⟩, List.mem_of_getElem? (i := 485) (by decide +kernel), List.mem_of_getElem? (i := 739) (by decide +kernel), List.mem_of_getElem? (i := 740) (by decide +kernel)⟩
theorem lw_p63 : lw_okq (⟨"SieveDeskModel", "tags", "(I)V"⟩, 19) := ⟨⟨by decide +kernel, by decide +kernel⟩, List.mem_of_getElem? (i := 485) (by decide +kernel), List.mem_of_getElem? (i := 743) (by decide +kernel), List.mem_of_getElem? (i := 744) (by decide +kernel)⟩
def lw_privs_4 : List (MethodName × Nat) := [(⟨"SieveDeskModel", "digits", "()I"⟩, 19), (⟨"SieveDeskModel", "quoted", "()I"⟩, 19), (⟨"SieveDeskModel", "fail", "()V"⟩, 19), (⟨"SieveDeskModel", "isWord", "(I)Z"⟩, 19), (⟨"SieveDeskModel", "is", "(I)Z"⟩, 19), (⟨"SieveDeskModel", "list", "(Z)V"⟩, 19), (⟨"SieveDeskModel", "isSign", "(I)Z"⟩, 19), (⟨"SieveDeskModel", "string", "()V"⟩, 19), (⟨"SieveDeskModel", "require", "()V"⟩, 19), (⟨"SieveDeskModel", "take", "(I)V"⟩, 19), (⟨"SieveDeskModel", "push", "(I)V"⟩, 19), (⟨"SieveDeskModel", "step", "(I)V"⟩, 19), (⟨"SieveDeskModel", "command", "()V"⟩, 19), (⟨"SieveDeskModel", "counting", "(I)V"⟩, 19), (⟨"SieveDeskModel", "needs", "(I)V"⟩, 19), (⟨"SieveDeskModel", "tags", "(I)V"⟩, 19)]
theorem lw_r4 : ∀ q ∈ lw_privs_4, lw_okq q := List.forall_mem_cons.mpr ⟨lw_p48, List.forall_mem_cons.mpr ⟨lw_p49, List.forall_mem_cons.mpr ⟨lw_p50, List.forall_mem_cons.mpr ⟨lw_p51, List.forall_mem_cons.mpr ⟨lw_p52, List.forall_mem_cons.mpr ⟨lw_p53, List.forall_mem_cons.mpr ⟨lw_p54, List.forall_mem_cons.mpr ⟨lw_p55, List.forall_mem_cons.mpr ⟨lw_p56, List.forall_mem_cons.mpr ⟨lw_p57, List.forall_mem_cons.mpr ⟨lw_p58, List.forall_mem_cons.mpr ⟨lw_p59, List.forall_mem_cons.mpr ⟨lw_p60, List.forall_mem_cons.mpr ⟨lw_p61, List.forall_mem_cons.mpr ⟨lw_p62, List.forall_mem_cons.mpr ⟨lw_p63, fun _ h => absurd h List.not_mem_nil⟩⟩⟩⟩⟩⟩⟩⟩⟩⟩⟩⟩⟩⟩⟩⟩
theorem lw_p64 : lw_okq (⟨"SieveDeskModel", "file", "()V"⟩, 19) := ⟨⟨by decide +kernel, by decide +kernel⟩, List.mem_of_getElem? (i := 485) (by decide +kernel), List.mem_of_getElem? (i := 747) (by decide +kernel), List.mem_of_getElem? (i := 748) (by decide +kernel)⟩
theorem lw_p65 : lw_okq (⟨"SieveDeskModel", "redirect", "()V"⟩, 19) := ⟨⟨by decide +kernel, by decide +kernel⟩, List.mem_of_getElem? (i := 485) (by decide +kernel), List.mem_of_getElem? (i := 751) (by decide +kernel), List.mem_of_getElem? (i := 752) (by decide +kernel)⟩
theorem lw_p66 : lw_okq (⟨"SieveDeskModel", "isDotted", "(IIIZ)Z"⟩, 19) := ⟨⟨by decide +kernel, by decide +kernel⟩, List.mem_of_getElem? (i := 485) (by decide +kernel), List.mem_of_getElem? (i := 755) (by decide +kernel), List.mem_of_getElem? (i := 756) (by decide +kernel)⟩
theorem lw_p67 : lw_okq (⟨"SieveDeskModel", "taken", "()V"⟩, 19) := ⟨⟨by decide +kernel, by decide +kernel⟩, List.mem_of_getElem? (i := 485) (by decide +kernel), List.mem_of_getElem? (i := 762) (by decide +kernel), List.mem_of_getElem? (i := 763) (by decide +kernel)⟩
theorem lw_p68 : lw_okq (⟨"SieveDeskModel", "absence", "()V"⟩, 19) := ⟨⟨by decide +kernel, by decide +kernel⟩, List.mem_of_getElem? (i := 485) (by decide +kernel), List.mem_of_getElem? (i := 766) (by decide +kernel), List.mem_of_getElem? (i := 767) (by decide +kernel)⟩
theorem lw_p69 : lw_okq (⟨"SieveDeskModel", "number", "()V"⟩, 19) := ⟨⟨by decide +kernel, by decide +kernel⟩, List.mem_of_getElem? (i := 485) (by decide +kernel), List.mem_of_getElem? (i := 770) (by decide +kernel), List.mem_of_getElem? (i := 771) (by decide +kernel)⟩
theorem lw_p70 : lw_okq (⟨"SieveDeskModel", "test", "()V"⟩, 19) := ⟨⟨by decide +kernel, by decide +kernel⟩, List.mem_of_getElem? (i := 485) (by decide +kernel), List.mem_of_getElem? (i := 774) (by decide +kernel), List.mem_of_getElem? (i := 775) (by decide +kernel)⟩
theorem lw_p71 : lw_okq (⟨"SieveDeskModel", "how", "(Z)V"⟩, 19) := ⟨⟨by decide +kernel, by decide +kernel⟩, List.mem_of_getElem? (i := 485) (by decide +kernel), List.mem_of_getElem? (i := 778) (by decide +kernel), List.mem_of_getElem? (i := 779) (by decide +kernel)⟩
theorem lw_p72 : lw_okq (⟨"SieveDeskModel", "one", "(II)V"⟩, 19) := ⟨⟨by decide +kernel, by decide +kernel⟩, List.mem_of_getElem? (i := 485) (by decide +kernel), List.mem_of_getElem? (i := 782) (by decide +kernel), List.mem_of_getElem? (i := 783) (by decide +kernel)⟩
def lw_privs_5 : List (MethodName × Nat) := [(⟨"SieveDeskModel", "file", "()V"⟩, 19), (⟨"SieveDeskModel", "redirect", "()V"⟩, 19), (⟨"SieveDeskModel", "isDotted", "(IIIZ)Z"⟩, 19), (⟨"SieveDeskModel", "taken", "()V"⟩, 19), (⟨"SieveDeskModel", "absence", "()V"⟩, 19), (⟨"SieveDeskModel", "number", "()V"⟩, 19), (⟨"SieveDeskModel", "test", "()V"⟩, 19), (⟨"SieveDeskModel", "how", "(Z)V"⟩, 19), (⟨"SieveDeskModel", "one", "(II)V"⟩, 19)]
theorem lw_r5 : ∀ q ∈ lw_privs_5, lw_okq q := List.forall_mem_cons.mpr ⟨lw_p64, List.forall_mem_cons.mpr ⟨lw_p65, List.forall_mem_cons.mpr ⟨lw_p66, List.forall_mem_cons.mpr ⟨lw_p67, List.forall_mem_cons.mpr ⟨lw_p68, List.forall_mem_cons.mpr ⟨lw_p69, List.forall_mem_cons.mpr ⟨lw_p70, List.forall_mem_cons.mpr ⟨lw_p71, List.forall_mem_cons.mpr ⟨lw_p72, fun _ h => absurd h List.not_mem_nil⟩⟩⟩⟩⟩⟩⟩⟩⟩
def lw_privs : List (MethodName × Nat) := lw_privs_1 ++ (lw_privs_2 ++ (lw_privs_3 ++ (lw_privs_4 ++ (lw_privs_5))))
def lw_tbl : List Cond := k2_sels lw_privs ++ tables_1
theorem lw_privs_ok : ∀ q ∈ lw_privs, lw_okq q := by
  show ∀ q ∈ lw_privs_1 ++ (lw_privs_2 ++ (lw_privs_3 ++ (lw_privs_4 ++ (lw_privs_5)))), lw_okq q
  exact List.forall_mem_append.mpr ⟨lw_r1, List.forall_mem_append.mpr ⟨lw_r2, List.forall_mem_append.mpr ⟨lw_r3, List.forall_mem_append.mpr ⟨lw_r4, lw_r5⟩⟩⟩⟩
end
section
/-! the tables' words that last (TT), those that last with the nest links (NT) -/
def TT : List Cond := lw_tbl.filter goodWord
def NT : List Cond := lw_tbl.filter (fun w => w.onTables && w.keepsH)
theorem mem_tt {i : Nat} {w : Cond} (h : lw_tbl[i]? = some w) (hg : goodWord w = true) : w ∈ TT := List.mem_filter.mpr ⟨List.mem_of_getElem? h, hg⟩
theorem mem_nt {i : Nat} {w : Cond} (h : lw_tbl[i]? = some w) (hg : (w.onTables && w.keepsH) = true) : w ∈ NT := List.mem_filter.mpr ⟨List.mem_of_getElem? h, hg⟩
theorem tt_tbl {w : Cond} (h : w ∈ TT) : w ∈ lw_tbl := (List.mem_filter.mp h).1
theorem tt_good {w : Cond} (h : w ∈ TT) : (w.onTables && w.keeps) = true ∨ ∃ ty, w = .arrayClass ty := good_of_word (List.mem_filter.mp h).2
theorem good_tt {ws : List Cond} (h : ∀ w ∈ ws, w ∈ TT) : GoodIn TT ws := fun w hw => ⟨h w hw, tt_good (h w hw)⟩
theorem g_C {c : Cond} (h : c ∈ TT) : GoodIn TT (c :: TT) := good_tt (fun w hw => (List.mem_cons.mp hw).elim (fun e => e ▸ h) id)
theorem g_V {own C : String} {idx : Nat} {y : MethodName} {c : Cond} (h1 : Cond.methodLink own idx y ∈ TT) (h2 : Cond.instanceMethod y ∈ TT) (h3 : Cond.selects C y y ∈ TT) (h4 : Cond.initialized C ∈ TT) (h5 : c ∈ TT) : GoodIn TT (wsV own idx C y (c :: TT)) := good_tt (fun w hw => by
  rcases List.mem_append.mp hw with hw | hw
  · rcases List.mem_cons.mp hw with rfl | hw
    · exact h1
    · rcases List.mem_cons.mp hw with rfl | hw
      · exact h2
      · rcases List.mem_cons.mp hw with rfl | hw
        · exact h3
        · rcases List.mem_cons.mp hw with rfl | hw
          · exact h4
          · cases hw
  · exact (List.mem_cons.mp hw).elim (fun e => e ▸ h5) id)
theorem g_S {own : String} {idx : Nat} {y : MethodName} {c : Cond} (h1 : Cond.methodLink own idx y ∈ TT) (h2 : Cond.static y ∈ TT) (h4 : Cond.initialized y.cls ∈ TT) (h5 : c ∈ TT) : GoodIn TT (va_wsS own idx y (c :: TT)) := good_tt (fun w hw => by
  rcases List.mem_append.mp hw with hw | hw
  · rcases List.mem_cons.mp hw with rfl | hw
    · exact h1
    · rcases List.mem_cons.mp hw with rfl | hw
      · exact h2
      · rcases List.mem_cons.mp hw with rfl | hw
        · exact h4
        · cases hw
  · exact (List.mem_cons.mp hw).elim (fun e => e ▸ h5) id)
def F_S : u_T := fun k => match k with
  | 0 => ("SieveDesk", "script", "[B", true)
  | 1 => ("SieveDesk", "tokens", "LSieveDesk$Tokens;", true)
  | 2 => ("SieveDesk", "grammar", "LSieveDesk$Grammar;", true)
  | 3 => ("SieveDesk", "length", "I", false)
  | _ => ("SieveDesk", "faultPlace", "I", false)
def ty_S : Nat → FieldType := fun k => match k with
  | 0 => .array .byte
  | 1 => .object "SieveDesk$Tokens"
  | 2 => .object "SieveDesk$Grammar"
  | 3 => .int
  | _ => .int
theorem n_S : ∀ a, a < 5 → ∀ b, b < 5 → a ≠ b → (F_S a).2.1 ≠ (F_S b).2.1 := by decide +kernel
theorem ty_S_ok : ∀ k, k < 5 → parseFieldDescriptor (F_S k).2.2.1 = some (ty_S k) := by decide +kernel
def F_T : u_T := fun k => match k with
  | 0 => ("SieveDesk$Tokens", "script", "[B", true)
  | 1 => ("SieveDesk$Tokens", "kinds", "[I", true)
  | 2 => ("SieveDesk$Tokens", "starts", "[I", true)
  | 3 => ("SieveDesk$Tokens", "words", "[LSieveDesk$Word;", true)
  | 4 => ("SieveDesk$Tokens", "says", "[I", true)
  | 5 => ("SieveDesk$Tokens", "quoted", "LSieveDesk$Quoted;", true)
  | 6 => ("SieveDesk$Tokens", "many", "I", false)
  | 7 => ("SieveDesk$Tokens", "length", "I", false)
  | _ => ("SieveDesk$Tokens", "at", "I", false)
def ty_T : Nat → FieldType := fun k => match k with
  | 0 => .array .byte
  | 1 => .array .int
  | 2 => .array .int
  | 3 => .array (.object "SieveDesk$Word")
  | 4 => .array .int
  | 5 => .object "SieveDesk$Quoted"
  | 6 => .int
  | 7 => .int
  | _ => .int
theorem n_T : ∀ a, a < 9 → ∀ b, b < 9 → a ≠ b → (F_T a).2.1 ≠ (F_T b).2.1 := by decide +kernel
theorem ty_T_ok : ∀ k, k < 9 → parseFieldDescriptor (F_T k).2.2.1 = some (ty_T k) := by decide +kernel
def F_Q : u_T := fun k => match k with
  | 0 => ("SieveDesk$Quoted", "bytes", "[B", true)
  | _ => ("SieveDesk$Quoted", "length", "I", false)
def ty_Q : Nat → FieldType := fun k => match k with
  | 0 => .array .byte
  | _ => .int
theorem n_Q : ∀ a, a < 2 → ∀ b, b < 2 → a ≠ b → (F_Q a).2.1 ≠ (F_Q b).2.1 := by decide +kernel
theorem ty_Q_ok : ∀ k, k < 2 → parseFieldDescriptor (F_Q k).2.2.1 = some (ty_Q k) := by decide +kernel
def F_G : u_T := fun k => match k with
  | 0 => ("SieveDesk$Grammar", "tokens", "LSieveDesk$Tokens;", true)
  | 1 => ("SieveDesk$Grammar", "due", "[C", true)
  | 2 => ("SieveDesk$Grammar", "manyDue", "I", false)
  | 3 => ("SieveDesk$Grammar", "at", "I", false)
  | 4 => ("SieveDesk$Grammar", "kind", "I", false)
  | 5 => ("SieveDesk$Grammar", "word", "LSieveDesk$Word;", false)
  | 6 => ("SieveDesk$Grammar", "tag", "LSieveDesk$Word;", false)
  | 7 => ("SieveDesk$Grammar", "says", "I", false)
  | 8 => ("SieveDesk$Grammar", "things", "I", false)
  | 9 => ("SieveDesk$Grammar", "strings", "I", false)
  | 10 => ("SieveDesk$Grammar", "required", "I", false)
  | 11 => ("SieveDesk$Grammar", "blocks", "I", false)
  | 12 => ("SieveDesk$Grammar", "tests", "I", false)
  | _ => ("SieveDesk$Grammar", "openGroups", "I", false)
def ty_G : Nat → FieldType := fun k => match k with
  | 0 => .object "SieveDesk$Tokens"
  | 1 => .array .char
  | 2 => .int
  | 3 => .int
  | 4 => .int
  | 5 => .object "SieveDesk$Word"
  | 6 => .object "SieveDesk$Word"
  | 7 => .int
  | 8 => .int
  | 9 => .int
  | 10 => .int
  | 11 => .int
  | 12 => .int
  | _ => .int
theorem n_G : ∀ a, a < 14 → ∀ b, b < 14 → a ≠ b → (F_G a).2.1 ≠ (F_G b).2.1 := by decide +kernel
theorem ty_G_ok : ∀ k, k < 14 → parseFieldDescriptor (F_G k).2.2.1 = some (ty_G k) := by decide +kernel
def F_M : u_T := fun k => match k with
  | 0 => ("SieveDeskModel", "words", "[J", true)
  | 1 => ("SieveDeskModel", "wordSizes", "[I", true)
  | 2 => ("SieveDeskModel", "src", "[I", true)
  | 3 => ("SieveDeskModel", "srcSize", "I", false)
  | 4 => ("SieveDeskModel", "srcAt", "I", false)
  | 5 => ("SieveDeskModel", "sort", "I", false)
  | 6 => ("SieveDeskModel", "place", "I", false)
  | 7 => ("SieveDeskModel", "size", "I", false)
  | 8 => ("SieveDeskModel", "letters", "[J", true)
  | 9 => ("SieveDeskModel", "text", "[I", true)
  | 10 => ("SieveDeskModel", "faultAt", "I", false)
  | 11 => ("SieveDeskModel", "line", "I", false)
  | 12 => ("SieveDeskModel", "counted", "I", false)
  | 13 => ("SieveDeskModel", "strings", "I", false)
  | 14 => ("SieveDeskModel", "required", "I", false)
  | 15 => ("SieveDeskModel", "blocks", "I", false)
  | 16 => ("SieveDeskModel", "tests", "I", false)
  | 17 => ("SieveDeskModel", "open", "I", false)
  | _ => ("SieveDeskModel", "row", "[I", true)
def ty_M : Nat → FieldType := fun k => match k with
  | 0 => .array .long
  | 1 => .array .int
  | 2 => .array .int
  | 3 => .int
  | 4 => .int
  | 5 => .int
  | 6 => .int
  | 7 => .int
  | 8 => .array .long
  | 9 => .array .int
  | 10 => .int
  | 11 => .int
  | 12 => .int
  | 13 => .int
  | 14 => .int
  | 15 => .int
  | 16 => .int
  | 17 => .int
  | _ => .array .int
theorem n_M : ∀ a, a < 19 → ∀ b, b < 19 → a ≠ b → (F_M a).2.1 ≠ (F_M b).2.1 := by decide +kernel
theorem ty_M_ok : ∀ k, k < 19 → parseFieldDescriptor (F_M k).2.2.1 = some (ty_M k) := by decide +kernel
abbrev cls : List vw_C := [("SieveDesk", F_S, 5), ("SieveDesk$Tokens", F_T, 9), ("SieveDesk$Quoted", F_Q, 2), ("SieveDesk$Grammar", F_G, 14), ("SieveDeskModel", F_M, 19)]
theorem i_S : ∀ w ∈ u_ws "SieveDesk" F_S 5, w ∈ TT := by decide +kernel
theorem i_T : ∀ w ∈ u_ws "SieveDesk$Tokens" F_T 9, w ∈ TT := by decide +kernel
theorem i_Q : ∀ w ∈ u_ws "SieveDesk$Quoted" F_Q 2, w ∈ TT := by decide +kernel
theorem i_G : ∀ w ∈ u_ws "SieveDesk$Grammar" F_G 14, w ∈ TT := by decide +kernel
theorem i_M : ∀ w ∈ u_ws "SieveDeskModel" F_M 19, w ∈ TT := by decide +kernel
/-! the class's world, the reference's world -/
def WE (h : Nat → Nat) (g : Nat → ClassId) (len fp many tlen tat qlen md gat kind : Int32) (wd tg : Value) (gs th st rq bl te og : Int32) (sc kd sr : Nat → Int32) (wo : Nat → Option Nat) (sa qb du : Nat → Int32) : va_W :=
  [(h 0, .inr (0, [.ref (h 1), .ref (h 2), .ref (h 9), .int len, .int fp])),
   (h 1, .inl (g 0, 400, .inl sc)),
   (h 2, .inr (1, [.ref (h 1), .ref (h 3), .ref (h 4), .ref (h 5), .ref (h 6), .ref (h 7), .int many, .int tlen, .int tat])),
   (h 3, .inl (g 1, 401, .inl kd)),
   (h 4, .inl (g 2, 401, .inl sr)),
   (h 5, .inl (g 3, 401, .inr (.inr (.inr (.inr wo))))),
   (h 6, .inl (g 4, 401, .inl sa)),
   (h 7, .inr (2, [.ref (h 8), .int qlen])),
   (h 8, .inl (g 5, 200, .inl qb)),
   (h 9, .inr (3, [.ref (h 2), .ref (h 10), .int md, .int gat, .int kind, wd, tg, .int gs, .int th, .int st, .int rq, .int bl, .int te, .int og])),
   (h 10, .inl (g 6, 200, .inl du))]
def TE (g : Nat → ClassId) : List (ClassId × FieldType) := [(g 0, .byte), (g 1, .int), (g 2, .int), (g 3, .object "SieveDesk$Word"), (g 4, .int), (g 5, .byte), (g 6, .char)]
def ME (h : Nat → Nat) (g : Nat → ClassId) (ss sa so pl sz fa li co st rq bl te op : Int32) (wo : Nat → Int64) (wz sr : Nat → Int32) (le : Nat → Int64) (tx ro : Nat → Int32) : va_W :=
  [(h 0, .inr (4, [.ref (h 1), .ref (h 2), .ref (h 3), .int ss, .int sa, .int so, .int pl, .int sz, .ref (h 4), .ref (h 5), .int fa, .int li, .int co, .int st, .int rq, .int bl, .int te, .int op, .ref (h 6)])),
   (h 1, .inl (g 0, 220, .inr (.inl wo))),
   (h 2, .inl (g 1, 55, .inl wz)),
   (h 3, .inl (g 2, 400, .inl sr)),
   (h 4, .inl (g 3, 4, .inr (.inl le))),
   (h 5, .inl (g 4, 1010, .inl tx)),
   (h 6, .inl (g 5, 80, .inl ro))]
def TM (g : Nat → ClassId) : List (ClassId × FieldType) := [(g 0, .long), (g 1, .int), (g 2, .int), (g 3, .long), (g 4, .int), (g 5, .int)]
/-! what the start gives of constants: k i the words (i < 43), k (50 + i) the names (i < 17), k 80, k 81 the two EACH, k (100 + i) Strings (i < 116), k (300 + i) their bytes, k (500 + i) their lengths -/
def stL : List (String × String × String × Nat) := [("SieveDesk$Word", "NONE", "LSieveDesk$Word;", 0), ("SieveDesk$Word", "REQUIRE", "LSieveDesk$Word;", 1), ("SieveDesk$Word", "ELSIF", "LSieveDesk$Word;", 2), ("SieveDesk$Word", "ELSE", "LSieveDesk$Word;", 3), ("SieveDesk$Word", "IF", "LSieveDesk$Word;", 4), ("SieveDesk$Word", "OVER", "LSieveDesk$Word;", 41), ("SieveDesk$Word", "UNDER", "LSieveDesk$Word;", 42), ("SieveDesk$Word", "EACH", "[LSieveDesk$Word;", 80), ("SieveDesk$Name", "EACH", "[LSieveDesk$Name;", 81)]
def liL : List (String × Nat × String × Nat) := [("SieveDesk$Grammar", 59, "qc.", 207), ("SieveDesk$Grammar", 167, "c", 208), ("SieveDesk$Grammar", 172, "v", 209), ("SieveDesk$Grammar", 174, "tm", 210), ("SieveDesk$Grammar", 176, "g", 211), ("SieveDesk$Tokens", 105, "text", 212), ("SieveDesk$Tokens", 92, ";,()[]{}", 213), ("SieveDesk$Quoted", 43, "!#$%&'*+-/=?^_`{|}~", 214), ("SieveDesk$Quoted", 49, "-", 215)]
def WD (k : Nat → Nat) (i : Nat) (A : Nat → Prop) (U : State) (H : Heap) : Prop := va_O "SieveDesk$Word" (k i) A U H ∧ (∃ r : Int32, va_OF "SieveDesk$Word" "role" "I" (.int r) (k i) A U H) ∧ (∃ r : Int32, va_OF "SieveDesk$Word" "needs" "I" (.int r) (k i) A U H) ∧ (∃ r : Int32, va_OF "SieveDesk$Word" "groups" "I" (.int r) (k i) A U H) ∧ va_OF "SieveDesk$Word" "spelling" "Ljava/lang/String;" (.ref (k (100 + 2 * i))) (k i) A U H ∧ va_OF "SieveDesk$Word" "production" "Ljava/lang/String;" (.ref (k (100 + (2 * i + 1)))) (k i) A U H
def NM (k : Nat → Nat) (i : Nat) (A : Nat → Prop) (U : State) (H : Heap) : Prop := va_OF "SieveDesk$Name" "spelling" "Ljava/lang/String;" (.ref (k (100 + (90 + i)))) (k (50 + i)) A U H ∧ ∃ r : Int32, va_OF "SieveDesk$Name" "says" "I" (.int r) (k (50 + i)) A U H
def ST (a v n : Nat) (A : Nat → Prop) (U : State) (H : Heap) : Prop := va_O "java/lang/String" a A U H ∧ va_OF "java/lang/String" "coder" "B" (.int 0) a A U H ∧ va_OF "java/lang/String" "value" "[B" (.ref v) a A U H ∧ (∃ f : Nat → Int32, va_T .byte v n (fun j => .int (f j)) A U H) ∧ n ≤ 100
def KE (k : Nat → Nat) (A : Nat → Prop) (U : State) (H : Heap) : Prop :=
  (∀ w ∈ NT, va_Nw w U) ∧ va_AO "SieveDesk$Word" U ∧ (∀ q ∈ stL, va_Z q.1 q.2.1 q.2.2.1 (.ref (k q.2.2.2)) A U H) ∧ (∀ i, i < 43 → WD k i A U H) ∧ (∀ i, i < 17 → NM k i A U H) ∧ (∀ i, i < 116 → ST (k (100 + i)) (k (300 + i)) (k (500 + i)) A U H) ∧
  va_T (.object "SieveDesk$Word") (k 80) 43 (fun i => .ref (k i)) A U H ∧ va_T (.object "SieveDesk$Name") (k 81) 17 (fun i => .ref (k (50 + i))) A U H ∧ (∀ q ∈ liL, vk_R q.1 q.2.1 q.2.2.1 (k q.2.2.2) U) ∧
  va_Z "java/lang/String" "COMPACT_STRINGS" "Z" (.int 1) A U H ∧ va_Zq "jdk/internal/util/Preconditions" "SIOOBE_FORMATTER" "Ljava/util/function/BiFunction;" A U H
theorem WD.narrow {k : Nat → Nat} {i : Nat} {A B : Nat → Prop} {U : State} {H : Heap} (h : WD k i A U H) (hAB : ∀ q, B q → A q) : WD k i B U H := by
  obtain ⟨a1, ⟨r2, a2⟩, ⟨r3, a3⟩, ⟨r4, a4⟩, a5, a6⟩ := h
  exact ⟨a1.narrow hAB, ⟨r2, a2.narrow hAB⟩, ⟨r3, a3.narrow hAB⟩, ⟨r4, a4.narrow hAB⟩, a5.narrow hAB, a6.narrow hAB⟩
theorem WD.kept {k : Nat → Nat} {i : Nat} {A : Nat → Prop} {U : State} {H H1 : Heap} (h : WD k i A U H) (hq : ∀ a : Nat, a < H.size → ¬ A a → H1[a]? = H[a]?) : WD k i A U H1 := by
  obtain ⟨a1, ⟨r2, a2⟩, ⟨r3, a3⟩, ⟨r4, a4⟩, a5, a6⟩ := h
  exact ⟨a1.kept hq, ⟨r2, a2.kept hq⟩, ⟨r3, a3.kept hq⟩, ⟨r4, a4.kept hq⟩, a5.kept hq, a6.kept hq⟩
theorem WD.moved {k : Nat → Nat} {i : Nat} {A : Nat → Prop} {u U : State} {H : Heap} (hv : u.vm.Alike U.vm) (h : WD k i A u H) : WD k i A U H := by
  obtain ⟨a1, ⟨r2, a2⟩, ⟨r3, a3⟩, ⟨r4, a4⟩, a5, a6⟩ := h
  exact ⟨a1.moved hv, ⟨r2, a2.moved hv⟩, ⟨r3, a3.moved hv⟩, ⟨r4, a4.moved hv⟩, a5.moved hv, a6.moved hv⟩
theorem NM.narrow {k : Nat → Nat} {i : Nat} {A B : Nat → Prop} {U : State} {H : Heap} (h : NM k i A U H) (hAB : ∀ q, B q → A q) : NM k i B U H := ⟨h.1.narrow hAB, h.2.choose, h.2.choose_spec.narrow hAB⟩
theorem NM.kept {k : Nat → Nat} {i : Nat} {A : Nat → Prop} {U : State} {H H1 : Heap} (h : NM k i A U H) (hq : ∀ a : Nat, a < H.size → ¬ A a → H1[a]? = H[a]?) : NM k i A U H1 := ⟨h.1.kept hq, h.2.choose, h.2.choose_spec.kept hq⟩
theorem NM.moved {k : Nat → Nat} {i : Nat} {A : Nat → Prop} {u U : State} {H : Heap} (hv : u.vm.Alike U.vm) (h : NM k i A u H) : NM k i A U H := ⟨h.1.moved hv, h.2.choose, h.2.choose_spec.moved hv⟩
theorem ST.narrow {a v n : Nat} {A B : Nat → Prop} {U : State} {H : Heap} (h : ST a v n A U H) (hAB : ∀ q, B q → A q) : ST a v n B U H := by
  obtain ⟨a1, a2, a3, ⟨f, a4⟩, a5⟩ := h
  exact ⟨a1.narrow hAB, a2.narrow hAB, a3.narrow hAB, ⟨f, a4.narrow hAB⟩, a5⟩
theorem ST.kept {a v n : Nat} {A : Nat → Prop} {U : State} {H H1 : Heap} (h : ST a v n A U H) (hq : ∀ a : Nat, a < H.size → ¬ A a → H1[a]? = H[a]?) : ST a v n A U H1 := by
  obtain ⟨a1, a2, a3, ⟨f, a4⟩, a5⟩ := h
  exact ⟨a1.kept hq, a2.kept hq, a3.kept hq, ⟨f, a4.kept hq⟩, a5⟩
theorem ST.moved {a v n : Nat} {A : Nat → Prop} {u U : State} {H : Heap} (hv : u.vm.Alike U.vm) (h : ST a v n A u H) : ST a v n A U H := by
  obtain ⟨a1, a2, a3, ⟨f, a4⟩, a5⟩ := h
  exact ⟨a1.moved hv, a2.moved hv, a3.moved hv, ⟨f, a4.moved hv⟩, a5⟩
theorem KE.narrow {k : Nat → Nat} {A B : Nat → Prop} {U : State} {H : Heap} (h : KE k A U H) (hAB : ∀ q, B q → A q) : KE k B U H := by
  obtain ⟨a1, a2, a3, a4, a5, a6, a7, a8, a9, a10, a11⟩ := h
  exact ⟨a1, a2, fun q hq => (a3 q hq).narrow hAB, fun i hi => (a4 i hi).narrow hAB, fun i hi => (a5 i hi).narrow hAB, fun i hi => (a6 i hi).narrow hAB, a7.narrow hAB, a8.narrow hAB, a9, a10.narrow hAB, a11.narrow hAB⟩
theorem KE.kept {k : Nat → Nat} {A : Nat → Prop} {U : State} {H H1 : Heap} (h : KE k A U H) (hq : ∀ a : Nat, a < H.size → ¬ A a → H1[a]? = H[a]?) : KE k A U H1 := by
  obtain ⟨a1, a2, a3, a4, a5, a6, a7, a8, a9, a10, a11⟩ := h
  exact ⟨a1, a2, fun q h9 => (a3 q h9).kept hq, fun i hi => (a4 i hi).kept hq, fun i hi => (a5 i hi).kept hq, fun i hi => (a6 i hi).kept hq, a7.kept hq, a8.kept hq, a9, a10.kept hq, a11.kept hq⟩
theorem nw_warm {w : Cond} {s U : State} (hw : w ∈ NT) (hW : s.WarmedH U.vm) (h : va_Nw w s) : va_Nw w U := by
  have h1 := (List.mem_filter.mp hw).2
  simp only [Bool.and_eq_true] at h1
  exact va_tabs h1.1 (rfl : (s.setVm U.vm).vm = U.vm) (Cond.onTables_warmH (args' := #[]) (T := s) hW h1.1 h1.2 h)
theorem nw_same {w : Cond} {u U : State} (hw : w ∈ NT) (hv : u.vm = U.vm) (h : va_Nw w u) : va_Nw w U := by
  have h1 := (List.mem_filter.mp hw).2
  simp only [Bool.and_eq_true] at h1
  exact va_Nw.same h1.1 hv h
theorem nw_use {w : Cond} {A : Array Value} {U : State} (hw : w ∈ NT) (h : va_Nw w U) : w.before A U = true := by
  have h1 := (List.mem_filter.mp hw).2
  simp only [Bool.and_eq_true] at h1
  exact va_Nw.use h1.1 h
theorem KE.warm {k : Nat → Nat} {A : Nat → Prop} {s U : State} {H : Heap} (hW : s.WarmedH U.vm) (h : KE k A s H) : KE k A U H := by
  obtain ⟨a1, a2, a3, a4, a5, a6, a7, a8, a9, a10, a11⟩ := h
  exact ⟨fun w hw => nw_warm hw hW (a1 w hw), a2.moved hW.alike, fun q hq => (a3 q hq).moved hW.alike, fun i hi => (a4 i hi).moved hW.alike, fun i hi => (a5 i hi).moved hW.alike, fun i hi => (a6 i hi).moved hW.alike, a7.moved hW.alike, a8.moved hW.alike, fun q hq => (a9 q hq).warm hW, a10.moved hW.alike, a11.moved hW.alike⟩
theorem KE.same {k : Nat → Nat} {A : Nat → Prop} {s U : State} {H : Heap} (hv : s.vm = U.vm) (h : KE k A s H) : KE k A U H := by
  obtain ⟨a1, a2, a3, a4, a5, a6, a7, a8, a9, a10, a11⟩ := h
  have hal : s.vm.Alike U.vm := hv ▸ Vm.Alike.refl s.vm
  exact ⟨fun w hw => nw_same hw hv (a1 w hw), a2.moved hal, fun q hq => (a3 q hq).moved hal, fun i hi => (a4 i hi).moved hal, fun i hi => (a5 i hi).moved hal, fun i hi => (a6 i hi).moved hal, a7.moved hal, a8.moved hal, fun q hq => (a9 q hq).same hv.symm, a10.moved hal, a11.moved hal⟩
theorem ke_W_NONE {k : Nat → Nat} {A : Nat → Prop} {U : State} {H : Heap} (h : KE k A U H) : va_Z "SieveDesk$Word" "NONE" "LSieveDesk$Word;" (.ref (k 0)) A U H := h.2.2.1 ("SieveDesk$Word", "NONE", "LSieveDesk$Word;", 0) (by decide)
theorem ke_W_REQUIRE {k : Nat → Nat} {A : Nat → Prop} {U : State} {H : Heap} (h : KE k A U H) : va_Z "SieveDesk$Word" "REQUIRE" "LSieveDesk$Word;" (.ref (k 1)) A U H := h.2.2.1 ("SieveDesk$Word", "REQUIRE", "LSieveDesk$Word;", 1) (by decide)
theorem ke_W_ELSIF {k : Nat → Nat} {A : Nat → Prop} {U : State} {H : Heap} (h : KE k A U H) : va_Z "SieveDesk$Word" "ELSIF" "LSieveDesk$Word;" (.ref (k 2)) A U H := h.2.2.1 ("SieveDesk$Word", "ELSIF", "LSieveDesk$Word;", 2) (by decide)
theorem ke_W_ELSE {k : Nat → Nat} {A : Nat → Prop} {U : State} {H : Heap} (h : KE k A U H) : va_Z "SieveDesk$Word" "ELSE" "LSieveDesk$Word;" (.ref (k 3)) A U H := h.2.2.1 ("SieveDesk$Word", "ELSE", "LSieveDesk$Word;", 3) (by decide)
theorem ke_W_IF {k : Nat → Nat} {A : Nat → Prop} {U : State} {H : Heap} (h : KE k A U H) : va_Z "SieveDesk$Word" "IF" "LSieveDesk$Word;" (.ref (k 4)) A U H := h.2.2.1 ("SieveDesk$Word", "IF", "LSieveDesk$Word;", 4) (by decide)
theorem ke_W_OVER {k : Nat → Nat} {A : Nat → Prop} {U : State} {H : Heap} (h : KE k A U H) : va_Z "SieveDesk$Word" "OVER" "LSieveDesk$Word;" (.ref (k 41)) A U H := h.2.2.1 ("SieveDesk$Word", "OVER", "LSieveDesk$Word;", 41) (by decide)
theorem ke_W_UNDER {k : Nat → Nat} {A : Nat → Prop} {U : State} {H : Heap} (h : KE k A U H) : va_Z "SieveDesk$Word" "UNDER" "LSieveDesk$Word;" (.ref (k 42)) A U H := h.2.2.1 ("SieveDesk$Word", "UNDER", "LSieveDesk$Word;", 42) (by decide)
theorem ke_W_EACH {k : Nat → Nat} {A : Nat → Prop} {U : State} {H : Heap} (h : KE k A U H) : va_Z "SieveDesk$Word" "EACH" "[LSieveDesk$Word;" (.ref (k 80)) A U H := h.2.2.1 ("SieveDesk$Word", "EACH", "[LSieveDesk$Word;", 80) (by decide)
theorem ke_N_EACH {k : Nat → Nat} {A : Nat → Prop} {U : State} {H : Heap} (h : KE k A U H) : va_Z "SieveDesk$Name" "EACH" "[LSieveDesk$Name;" (.ref (k 81)) A U H := h.2.2.1 ("SieveDesk$Name", "EACH", "[LSieveDesk$Name;", 81) (by decide)
theorem ke_l207 {k : Nat → Nat} {A : Nat → Prop} {U : State} {H : Heap} (h : KE k A U H) : vk_R "SieveDesk$Grammar" 59 "qc." (k 207) U := h.2.2.2.2.2.2.2.2.1 ("SieveDesk$Grammar", 59, "qc.", 207) (by decide)
theorem ke_l208 {k : Nat → Nat} {A : Nat → Prop} {U : State} {H : Heap} (h : KE k A U H) : vk_R "SieveDesk$Grammar" 167 "c" (k 208) U := h.2.2.2.2.2.2.2.2.1 ("SieveDesk$Grammar", 167, "c", 208) (by decide)
theorem ke_l209 {k : Nat → Nat} {A : Nat → Prop} {U : State} {H : Heap} (h : KE k A U H) : vk_R "SieveDesk$Grammar" 172 "v" (k 209) U := h.2.2.2.2.2.2.2.2.1 ("SieveDesk$Grammar", 172, "v", 209) (by decide)
theorem ke_l210 {k : Nat → Nat} {A : Nat → Prop} {U : State} {H : Heap} (h : KE k A U H) : vk_R "SieveDesk$Grammar" 174 "tm" (k 210) U := h.2.2.2.2.2.2.2.2.1 ("SieveDesk$Grammar", 174, "tm", 210) (by decide)
theorem ke_l211 {k : Nat → Nat} {A : Nat → Prop} {U : State} {H : Heap} (h : KE k A U H) : vk_R "SieveDesk$Grammar" 176 "g" (k 211) U := h.2.2.2.2.2.2.2.2.1 ("SieveDesk$Grammar", 176, "g", 211) (by decide)
theorem ke_l212 {k : Nat → Nat} {A : Nat → Prop} {U : State} {H : Heap} (h : KE k A U H) : vk_R "SieveDesk$Tokens" 105 "text" (k 212) U := h.2.2.2.2.2.2.2.2.1 ("SieveDesk$Tokens", 105, "text", 212) (by decide)
theorem ke_l213 {k : Nat → Nat} {A : Nat → Prop} {U : State} {H : Heap} (h : KE k A U H) : vk_R "SieveDesk$Tokens" 92 ";,()[]{}" (k 213) U := h.2.2.2.2.2.2.2.2.1 ("SieveDesk$Tokens", 92, ";,()[]{}", 213) (by decide)
theorem ke_l214 {k : Nat → Nat} {A : Nat → Prop} {U : State} {H : Heap} (h : KE k A U H) : vk_R "SieveDesk$Quoted" 43 "!#$%&'*+-/=?^_`{|}~" (k 214) U := h.2.2.2.2.2.2.2.2.1 ("SieveDesk$Quoted", 43, "!#$%&'*+-/=?^_`{|}~", 214) (by decide)
theorem ke_l215 {k : Nat → Nat} {A : Nat → Prop} {U : State} {H : Heap} (h : KE k A U H) : vk_R "SieveDesk$Quoted" 49 "-" (k 215) U := h.2.2.2.2.2.2.2.2.1 ("SieveDesk$Quoted", 49, "-", 215) (by decide)
theorem ke_w {k : Nat → Nat} {A : Nat → Prop} {U : State} {H : Heap} (h : KE k A U H) {i : Nat} (hi : i < 43) : WD k i A U H := h.2.2.2.1 i hi
theorem ke_n {k : Nat → Nat} {A : Nat → Prop} {U : State} {H : Heap} (h : KE k A U H) {i : Nat} (hi : i < 17) : NM k i A U H := h.2.2.2.2.1 i hi
theorem ke_s {k : Nat → Nat} {A : Nat → Prop} {U : State} {H : Heap} (h : KE k A U H) {i : Nat} (hi : i < 116) : ST (k (100 + i)) (k (300 + i)) (k (500 + i)) A U H := h.2.2.2.2.2.1 i hi
theorem ke_tw {k : Nat → Nat} {A : Nat → Prop} {U : State} {H : Heap} (h : KE k A U H) : va_T (.object "SieveDesk$Word") (k 80) 43 (fun i => .ref (k i)) A U H := h.2.2.2.2.2.2.1
theorem ke_tn {k : Nat → Nat} {A : Nat → Prop} {U : State} {H : Heap} (h : KE k A U H) : va_T (.object "SieveDesk$Name") (k 81) 17 (fun i => .ref (k (50 + i))) A U H := h.2.2.2.2.2.2.2.1
theorem ke_cs {k : Nat → Nat} {A : Nat → Prop} {U : State} {H : Heap} (h : KE k A U H) : va_Z "java/lang/String" "COMPACT_STRINGS" "Z" (.int 1) A U H := h.2.2.2.2.2.2.2.2.2.1
theorem ke_sf {k : Nat → Nat} {A : Nat → Prop} {U : State} {H : Heap} (h : KE k A U H) : va_Zq "jdk/internal/util/Preconditions" "SIOOBE_FORMATTER" "Ljava/util/function/BiFunction;" A U H := h.2.2.2.2.2.2.2.2.2.2
/-! a contract's start: the world ws, the constants; its end -/
def PX (dC : Nat → ClassId) (dI : Nat → Nat → Nat) (k : Nat → Nat) (tys : List (ClassId × FieldType)) (ws : va_W) (sz : Nat) (U : State) : Prop := U.heap.size = sz ∧ KE k (va_A ws sz) U U.heap ∧ va_P (dC, dI) cls ws U.heap ∧ va_K (dC, dI) cls tys U ∧ va_D (fun _ => True) ws
def BX (dC : Nat → ClassId) (dI : Nat → Nat → Nat) (tys : List (ClassId × FieldType)) (A : Nat → Prop) (ws : va_W) (t : State) : Prop := va_P (dC, dI) cls ws t.heap ∧ va_K (dC, dI) cls tys t ∧ va_D A ws
def PJ (k : Nat → Nat) (U : State) : Prop := KE k (fun _ => False) U U.heap
theorem fb_X {dC : Nat → ClassId} {dI : Nat → Nat → Nat} {k : Nat → Nat} {tys : List (ClassId × FieldType)} {ws : va_W} {sz : Nat} {av : List Value} : FrameBlind (va_Pc av (PX dC dI k tys ws sz)) := fun a U g mk q => by
  obtain ⟨q0, q1, q2, q3, q4, q5⟩ := q
  exact ⟨q0, q1, q2.same (s := U) (U := U.calling g mk a) rfl, q3, va_K.moved (u := U) (U := U.calling g mk a) (Vm.Alike.refl U.vm) q4, q5⟩
theorem pre_X {dC : Nat → ClassId} {dI : Nat → Nat → Nat} {k : Nat → Nat} {tys : List (ClassId × FieldType)} {ws : va_W} {av : List Value} {A : Nat → Prop} {s : State} {H : Heap} {locs : List Loc} (hE : KE k A s s.heap) (hS : va_S A s.heap H locs) (hF : ∀ q, va_A ws H.size q → A q) (hP : va_P (dC, dI) cls ws H) (hK : va_K (dC, dI) cls tys s) (hD : va_D A ws) : ∀ U : State, U.heap = H → s.WarmedH U.vm → va_Pc av (PX dC dI k tys ws H.size) av.toArray U := fun U hU hW => by
  subst hU
  exact ⟨rfl, rfl, ((hE.kept hS.2.1).narrow hF).warm hW, hP, va_K.moved hW.alike hK, hD.weaken (fun _ _ _ _ => trivial)⟩
theorem fb_J {k : Nat → Nat} {av : List Value} : FrameBlind (va_Pc av (PJ k)) := fun a U g mk q => by
  obtain ⟨q0, q1⟩ := q
  exact ⟨q0, q1.same (s := U) (U := U.calling g mk a) rfl⟩
theorem pre_J {k : Nat → Nat} {av : List Value} {A : Nat → Prop} {s : State} {H : Heap} {locs : List Loc} (hE : KE k A s s.heap) (hS : va_S A s.heap H locs) : ∀ U : State, U.heap = H → s.WarmedH U.vm → va_Pc av (PJ k) av.toArray U := fun U hU hW => by
  subst hU
  exact ⟨rfl, ((hE.kept hS.2.1).narrow (fun _ h => h.elim)).warm hW⟩
section WEV
variable {p : Program} {l : Launch} {e : Env} {R : Room} {s : State} {m : MethodId} {args : Array Value} {below : List Frame} {meth : Method} {c : Code} {H : Heap} {locs : List Loc} {cells slots : Nat} {Q : State → Prop} {cc : ByteArray} {pc : Nat} {ls : Array Slot} {rest : List Value}
theorem lv_ev {x y : Int32} (h : x = y) (kk : W p l e R s m args below meth c H locs cells slots Q (F0 m pc ls (.int y :: rest))) : W p l e R s m args below meth c H locs cells slots Q (F0 m pc ls (.int x :: rest)) := h ▸ kk
theorem vk_getfN (hexec : p.tables.exec = Jvm.exec) (hb : c.code = cc) {o n d own ref host : String} {index q : Nat} {v : Value} {A : Nat → Prop} (hE : va_OF o n d v q A s s.heap) (hS : va_S A s.heap H locs) (hown : s.vm.findClass own = some m.cls) (hlink : (Cond.fieldLinkNest own index ref n d host).before args s = true) (hsame : ∀ x, s.fieldFound? o n d = some x → s.fieldFound? ref n d = some x) (hdg : decode cc pc = .ok (.getfield index, 3)) (kk : W p l e R s m args below meth c H locs cells slots Q (F0 m (pc + 3) ls (v :: rest))) : W p l e R s m args below meth c H locs cells slots Q (F0 m pc ls (.ref q :: rest)) := by
  obtain ⟨cf, k, i, f, cell, h1, h2, h3, h4, h5, h6⟩ := hE
  exact va_Wgetf hexec hb hown hlink (hsame _ h1) h2 (by rw [hS.2.1 q (Array.getElem?_eq_some_iff.mp h3).1 h6]; exact h3) h4 h5 rfl rfl hdg kk
theorem va_lastG {D : va_G} {cl : List vw_C} {tys : List (ClassId × FieldType)} {ws : va_W} {A : Nat → Prop} {H0 : Heap} {a : Nat} (hexec : p.tables.exec = Jvm.exec) (hb : c.code = cc) (hK : va_K D cl tys s) (hP : va_P D cl ws H) (hD : va_D A ws) (hS : va_S A H0 H locs) (q0 t0 : Nat) {cA : ClassId} {n : Nat} {f : Nat → Int64} (ha : ws[q0]? = some (a, .inl (cA, n, .inr (.inl f)))) (ht : tys[t0]? = some (cA, .long)) {i : Int32} {x : Int64} (hin : vp_in i n) (hdg : decode cc pc = .ok (.lastore, 1)) (kk : ∀ (f1 : Nat → Int64) (H1 : Heap) (locs1 : List Loc), va_P D cl (ws.set q0 (a, .inl (cA, n, .inr (.inl f1)))) H1 → va_D A (ws.set q0 (a, .inl (cA, n, .inr (.inl f1)))) → va_S A H0 H1 locs1 → W p l e R s m args below meth c H1 locs1 cells slots Q (F0 m (pc + 1) ls rest)) : W p l e R s m args below meth c H locs cells slots Q (F0 m pc ls (.long x :: .int i :: .ref a :: rest)) := va_last hexec hb hK hP hD hS q0 t0 ha ht hin hdg (fun H1 locs1 h1 h2 h3 => kk _ H1 locs1 h1 h2 h3)
theorem va_iastG {D : va_G} {cl : List vw_C} {tys : List (ClassId × FieldType)} {ws : va_W} {A : Nat → Prop} {H0 : Heap} {a : Nat} (hexec : p.tables.exec = Jvm.exec) (hb : c.code = cc) (hK : va_K D cl tys s) (hP : va_P D cl ws H) (hD : va_D A ws) (hS : va_S A H0 H locs) (q0 t0 : Nat) {cA : ClassId} {n : Nat} {f : Nat → Int32} (ha : ws[q0]? = some (a, .inl (cA, n, .inl f))) (ht : tys[t0]? = some (cA, .int)) {i : Int32} {x : Int32} (hin : vp_in i n) (hdg : decode cc pc = .ok (.iastore, 1)) (kk : ∀ (f1 : Nat → Int32) (H1 : Heap) (locs1 : List Loc), va_P D cl (ws.set q0 (a, .inl (cA, n, .inl f1))) H1 → va_D A (ws.set q0 (a, .inl (cA, n, .inl f1))) → va_S A H0 H1 locs1 → W p l e R s m args below meth c H1 locs1 cells slots Q (F0 m (pc + 1) ls rest)) : W p l e R s m args below meth c H locs cells slots Q (F0 m pc ls (.int x :: .int i :: .ref a :: rest)) := va_iast hexec hb hK hP hD hS q0 t0 ha ht hin hdg (fun H1 locs1 h1 h2 h3 => kk _ H1 locs1 h1 h2 h3)
end WEV
theorem oo_recv {E : String} {t : Nat} {A : Nat → Prop} {s : State} {H : Heap} {locs : List Loc} (h : va_O E t A s s.heap) (hS : va_S A s.heap H locs) : ∃ cell : Cell, H[t]? = some cell ∧ cell.vm.isStatics = false ∧ s.vm.findClass E = some cell.cls := by
  obtain ⟨cell, h1, h2, h3, h4⟩ := h
  exact ⟨cell, by rw [hS.2.1 t (Array.getElem?_eq_some_iff.mp h1).1 h4]; exact h1, h2, h3⟩
end
