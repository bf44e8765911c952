section
-- ===== PART A: goes FIRST, ahead of the names: the tables' words, and 'selects' of the private methods out of them =====
/-- a private method of a class that the tables say can be made, by its rows of tables_1 -/
def lw_okq (q : MethodName × Nat) : Prop := (q.1.cls ≠ "java/lang/invoke/MethodHandle" ∧ q.1.cls ≠ "java/lang/invoke/VarHandle") ∧ Cond.instantiable q.1.cls q.2 ∈ tables_1 ∧ Cond.privateMethod q.1 ∈ tables_1 ∧ Cond.instanceMethod q.1 ∈ tables_1
theorem lw_p0 : lw_okq (⟨"SieveDesk$Tokens", "scan", "(I)V"⟩, 9) := ⟨⟨by decide +kernel, by decide +kernel⟩, List.mem_of_getElem? (i := 24) (by decide +kernel), List.mem_of_getElem? (i := 159) (by decide +kernel), List.mem_of_getElem? (i := 160) (by decide +kernel)⟩
theorem lw_p1 : lw_okq (⟨"SieveDesk$Tokens", "skipGap", "()V"⟩, 9) := ⟨⟨by decide +kernel, by decide +kernel⟩, List.mem_of_getElem? (i := 24) (by decide +kernel), List.mem_of_getElem? (i := 163) (by decide +kernel), List.mem_of_getElem? (i := 164) (by decide +kernel)⟩
theorem lw_p2 : lw_okq (⟨"SieveDesk$Tokens", "byteAt", "(I)I"⟩, 9) := ⟨⟨by decide +kernel, by decide +kernel⟩, List.mem_of_getElem? (i := 24) (by decide +kernel), List.mem_of_getElem? (i := 167) (by decide +kernel), List.mem_of_getElem? (i := 168) (by decide +kernel)⟩
theorem lw_p3 : lw_okq (⟨"SieveDesk$Tokens", "behindLine", "(I)I"⟩, 9) := ⟨⟨by decide +kernel, by decide +kernel⟩, List.mem_of_getElem? (i := 24) (by decide +kernel), List.mem_of_getElem? (i := 171) (by decide +kernel), List.mem_of_getElem? (i := 172) (by decide +kernel)⟩
theorem lw_p4 : lw_okq (⟨"SieveDesk$Tokens", "behindComment", "(I)I"⟩, 9) := ⟨⟨by decide +kernel, by decide +kernel⟩, List.mem_of_getElem? (i := 24) (by decide +kernel), List.mem_of_getElem? (i := 175) (by decide +kernel), List.mem_of_getElem? (i := 176) (by decide +kernel)⟩
theorem lw_p5 : lw_okq (⟨"SieveDesk$Tokens", "add", "(ILSieveDesk$Word;II)V"⟩, 9) := ⟨⟨by decide +kernel, by decide +kernel⟩, List.mem_of_getElem? (i := 24) (by decide +kernel), List.mem_of_getElem? (i := 180) (by decide +kernel), List.mem_of_getElem? (i := 181) (by decide +kernel)⟩
theorem lw_p6 : lw_okq (⟨"SieveDesk$Tokens", "scanToken", "()Z"⟩, 9) := ⟨⟨by decide +kernel, by decide +kernel⟩, List.mem_of_getElem? (i := 24) (by decide +kernel), List.mem_of_getElem? (i := 184) (by decide +kernel), List.mem_of_getElem? (i := 185) (by decide +kernel)⟩
theorem lw_p7 : lw_okq (⟨"SieveDesk$Tokens", "scanWord", "()Z"⟩, 9) := ⟨⟨by decide +kernel, by decide +kernel⟩, List.mem_of_getElem? (i := 24) (by decide +kernel), List.mem_of_getElem? (i := 194) (by decide +kernel), List.mem_of_getElem? (i := 195) (by decide +kernel)⟩
theorem lw_p8 : lw_okq (⟨"SieveDesk$Tokens", "wordEnd", "(I)I"⟩, 9) := ⟨⟨by decide +kernel, by decide +kernel⟩, List.mem_of_getElem? (i := 24) (by decide +kernel), List.mem_of_getElem? (i := 198) (by decide +kernel), List.mem_of_getElem? (i := 199) (by decide +kernel)⟩
theorem lw_p9 : lw_okq (⟨"SieveDesk$Tokens", "scanText", "(I)Z"⟩, 9) := ⟨⟨by decide +kernel, by decide +kernel⟩, List.mem_of_getElem? (i := 24) (by decide +kernel), List.mem_of_getElem? (i := 260) (by decide +kernel), List.mem_of_getElem? (i := 261) (by decide +kernel)⟩
theorem lw_p10 : lw_okq (⟨"SieveDesk$Tokens", "behindLineEnd", "(I)I"⟩, 9) := ⟨⟨by decide +kernel, by decide +kernel⟩, List.mem_of_getElem? (i := 24) (by decide +kernel), List.mem_of_getElem? (i := 264) (by decide +kernel), List.mem_of_getElem? (i := 265) (by decide +kernel)⟩
theorem lw_p11 : lw_okq (⟨"SieveDesk$Tokens", "scanTag", "()Z"⟩, 9) := ⟨⟨by decide +kernel, by decide +kernel⟩, List.mem_of_getElem? (i := 24) (by decide +kernel), List.mem_of_getElem? (i := 275) (by decide +kernel), List.mem_of_getElem? (i := 276) (by decide +kernel)⟩
theorem lw_p12 : lw_okq (⟨"SieveDesk$Tokens", "scanNumber", "()Z"⟩, 9) := ⟨⟨by decide +kernel, by decide +kernel⟩, List.mem_of_getElem? (i := 24) (by decide +kernel), List.mem_of_getElem? (i := 280) (by decide +kernel), List.mem_of_getElem? (i := 281) (by decide +kernel)⟩
theorem lw_p13 : lw_okq (⟨"SieveDesk$Tokens", "scanQuoted", "()Z"⟩, 9) := ⟨⟨by decide +kernel, by decide +kernel⟩, List.mem_of_getElem? (i := 24) (by decide +kernel), List.mem_of_getElem? (i := 294) (by decide +kernel), List.mem_of_getElem? (i := 295) (by decide +kernel)⟩
theorem lw_p14 : lw_okq (⟨"SieveDesk$Quoted", "empty", "()V"⟩, 2) := ⟨⟨by decide +kernel, by decide +kernel⟩, List.mem_of_getElem? (i := 32) (by decide +kernel), List.mem_of_getElem? (i := 298) (by decide +kernel), List.mem_of_getElem? (i := 299) (by decide +kernel)⟩
theorem lw_p15 : lw_okq (⟨"SieveDesk$Quoted", "says", "()I"⟩, 2) := ⟨⟨by decide +kernel, by decide +kernel⟩, List.mem_of_getElem? (i := 32) (by decide +kernel), List.mem_of_getElem? (i := 302) (by decide +kernel), List.mem_of_getElem? (i := 303) (by decide +kernel)⟩
def lw_privs_1 : List (MethodName × Nat) := [(⟨"SieveDesk$Tokens", "scan", "(I)V"⟩, 9), (⟨"SieveDesk$Tokens", "skipGap", "()V"⟩, 9), (⟨"SieveDesk$Tokens", "byteAt", "(I)I"⟩, 9), (⟨"SieveDesk$Tokens", "behindLine", "(I)I"⟩, 9), (⟨"SieveDesk$Tokens", "behindComment", "(I)I"⟩, 9), (⟨"SieveDesk$Tokens", "add", "(ILSieveDesk$Word;II)V"⟩, 9), (⟨"SieveDesk$Tokens", "scanToken", "()Z"⟩, 9), (⟨"SieveDesk$Tokens", "scanWord", "()Z"⟩, 9), (⟨"SieveDesk$Tokens", "wordEnd", "(I)I"⟩, 9), (⟨"SieveDesk$Tokens", "scanText", "(I)Z"⟩, 9), (⟨"SieveDesk$Tokens", "behindLineEnd", "(I)I"⟩, 9), (⟨"SieveDesk$Tokens", "scanTag", "()Z"⟩, 9), (⟨"SieveDesk$Tokens", "scanNumber", "()Z"⟩, 9), (⟨"SieveDesk$Tokens", "scanQuoted", "()Z"⟩, 9), (⟨"SieveDesk$Quoted", "empty", "()V"⟩, 2), (⟨"SieveDesk$Quoted", "says", "()I"⟩, 2)]
theorem lw_r1 : ∀ q ∈ lw_privs_1, lw_okq q := List.forall_mem_cons.mpr ⟨lw_p0, List.forall_mem_cons.mpr ⟨lw_p1, List.forall_mem_cons.mpr ⟨lw_p2, List.forall_mem_cons.mpr ⟨lw_p3, List.forall_mem_cons.mpr ⟨lw_p4, List.forall_mem_cons.mpr ⟨lw_p5, List.forall_mem_cons.mpr ⟨lw_p6, List.forall_mem_cons.mpr ⟨lw_p7, List.forall_mem_cons.mpr ⟨lw_p8, List.forall_mem_cons.mpr ⟨lw_p9, List.forall_mem_cons.mpr ⟨lw_p10, List.forall_mem_cons.mpr ⟨lw_p11, List.forall_mem_cons.mpr ⟨lw_p12, List.forall_mem_cons.mpr ⟨lw_p13, List.forall_mem_cons.mpr ⟨lw_p14, List.forall_mem_cons.mpr ⟨lw_p15, fun _ h => absurd h List.not_mem_nil⟩⟩⟩⟩⟩⟩⟩⟩⟩⟩⟩⟩⟩⟩⟩⟩
theorem lw_p16 : lw_okq (⟨"SieveDesk$Quoted", "isMailbox", "()Z"⟩, 2) := ⟨⟨by decide +kernel, by decide +kernel⟩, List.mem_of_getElem? (i := 32) (by decide +kernel), List.mem_of_getElem? (i := 306) (by decide +kernel), List.mem_of_getElem? (i := 307) (by decide +kernel)⟩
theorem lw_p17 : lw_okq (⟨"SieveDesk$Quoted", "isAddress", "()Z"⟩, 2) := ⟨⟨by decide +kernel, by decide +kernel⟩, List.mem_of_getElem? (i := 32) (by decide +kernel), List.mem_of_getElem? (i := 310) (by decide +kernel), List.mem_of_getElem? (i := 311) (by decide +kernel)⟩
theorem lw_p18 : lw_okq (⟨"SieveDesk$Quoted", "isDotted", "(IIILjava/lang/String;)Z"⟩, 2) := ⟨⟨by decide +kernel, by decide +kernel⟩, List.mem_of_getElem? (i := 32) (by decide +kernel), List.mem_of_getElem? (i := 315) (by decide +kernel), List.mem_of_getElem? (i := 316) (by decide +kernel)⟩
theorem lw_p19 : lw_okq (⟨"SieveDesk$Quoted", "add", "(I)Z"⟩, 2) := ⟨⟨by decide +kernel, by decide +kernel⟩, List.mem_of_getElem? (i := 32) (by decide +kernel), List.mem_of_getElem? (i := 384) (by decide +kernel), List.mem_of_getElem? (i := 385) (by decide +kernel)⟩
theorem lw_p20 : lw_okq (⟨"SieveDesk$Grammar", "reads", "()Z"⟩, 14) := ⟨⟨by decide +kernel, by decide +kernel⟩, List.mem_of_getElem? (i := 80) (by decide +kernel), List.mem_of_getElem? (i := 390) (by decide +kernel), List.mem_of_getElem? (i := 391) (by decide +kernel)⟩
theorem lw_p21 : lw_okq (⟨"SieveDesk$Grammar", "advance", "()V"⟩, 14) := ⟨⟨by decide +kernel, by decide +kernel⟩, List.mem_of_getElem? (i := 80) (by decide +kernel), List.mem_of_getElem? (i := 394) (by decide +kernel), List.mem_of_getElem? (i := 395) (by decide +kernel)⟩
theorem lw_p22 : lw_okq (⟨"SieveDesk$Grammar", "expect", "(Ljava/lang/String;)V"⟩, 14) := ⟨⟨by decide +kernel, by decide +kernel⟩, List.mem_of_getElem? (i := 80) (by decide +kernel), List.mem_of_getElem? (i := 399) (by decide +kernel), List.mem_of_getElem? (i := 400) (by decide +kernel)⟩
theorem lw_p23 : lw_okq (⟨"SieveDesk$Grammar", "take", "(C)Z"⟩, 14) := ⟨⟨by decide +kernel, by decide +kernel⟩, List.mem_of_getElem? (i := 80) (by decide +kernel), List.mem_of_getElem? (i := 405) (by decide +kernel), List.mem_of_getElem? (i := 406) (by decide +kernel)⟩
theorem lw_p24 : lw_okq (⟨"SieveDesk$Grammar", "follow", "(LSieveDesk$Word;)Z"⟩, 14) := ⟨⟨by decide +kernel, by decide +kernel⟩, List.mem_of_getElem? (i := 80) (by decide +kernel), List.mem_of_getElem? (i := 411) (by decide +kernel), List.mem_of_getElem? (i := 412) (by decide +kernel)⟩
theorem lw_p25 : lw_okq (⟨"SieveDesk$Grammar", "takeCommands", "()Z"⟩, 14) := ⟨⟨by decide +kernel, by decide +kernel⟩, List.mem_of_getElem? (i := 80) (by decide +kernel), List.mem_of_getElem? (i := 415) (by decide +kernel), List.mem_of_getElem? (i := 416) (by decide +kernel)⟩
theorem lw_p26 : lw_okq (⟨"SieveDesk$Grammar", "begin", "()Z"⟩, 14) := ⟨⟨by decide +kernel, by decide +kernel⟩, List.mem_of_getElem? (i := 80) (by decide +kernel), List.mem_of_getElem? (i := 422) (by decide +kernel), List.mem_of_getElem? (i := 423) (by decide +kernel)⟩
theorem lw_p27 : lw_okq (⟨"SieveDesk$Grammar", "lacks", "(I)Z"⟩, 14) := ⟨⟨by decide +kernel, by decide +kernel⟩, List.mem_of_getElem? (i := 80) (by decide +kernel), List.mem_of_getElem? (i := 426) (by decide +kernel), List.mem_of_getElem? (i := 427) (by decide +kernel)⟩
theorem lw_p28 : lw_okq (⟨"SieveDesk$Grammar", "takeTest", "()Z"⟩, 14) := ⟨⟨by decide +kernel, by decide +kernel⟩, List.mem_of_getElem? (i := 80) (by decide +kernel), List.mem_of_getElem? (i := 430) (by decide +kernel), List.mem_of_getElem? (i := 431) (by decide +kernel)⟩
theorem lw_p29 : lw_okq (⟨"SieveDesk$Grammar", "takeMoreTests", "()Z"⟩, 14) := ⟨⟨by decide +kernel, by decide +kernel⟩, List.mem_of_getElem? (i := 80) (by decide +kernel), List.mem_of_getElem? (i := 435) (by decide +kernel), List.mem_of_getElem? (i := 436) (by decide +kernel)⟩
theorem lw_p30 : lw_okq (⟨"SieveDesk$Grammar", "takeTags", "()Z"⟩, 14) := ⟨⟨by decide +kernel, by decide +kernel⟩, List.mem_of_getElem? (i := 80) (by decide +kernel), List.mem_of_getElem? (i := 444) (by decide +kernel), List.mem_of_getElem? (i := 445) (by decide +kernel)⟩
theorem lw_p31 : lw_okq (⟨"SieveDesk$Grammar", "takeKind", "(I)Z"⟩, 14) := ⟨⟨by decide +kernel, by decide +kernel⟩, List.mem_of_getElem? (i := 80) (by decide +kernel), List.mem_of_getElem? (i := 453) (by decide +kernel), List.mem_of_getElem? (i := 454) (by decide +kernel)⟩
def lw_privs_2 : List (MethodName × Nat) := [(⟨"SieveDesk$Quoted", "isMailbox", "()Z"⟩, 2), (⟨"SieveDesk$Quoted", "isAddress", "()Z"⟩, 2), (⟨"SieveDesk$Quoted", "isDotted", "(IIILjava/lang/String;)Z"⟩, 2), (⟨"SieveDesk$Quoted", "add", "(I)Z"⟩, 2), (⟨"SieveDesk$Grammar", "reads", "()Z"⟩, 14), (⟨"SieveDesk$Grammar", "advance", "()V"⟩, 14), (⟨"SieveDesk$Grammar", "expect", "(Ljava/lang/String;)V"⟩, 14), (⟨"SieveDesk$Grammar", "take", "(C)Z"⟩, 14), (⟨"SieveDesk$Grammar", "follow", "(LSieveDesk$Word;)Z"⟩, 14), (⟨"SieveDesk$Grammar", "takeCommands", "()Z"⟩, 14), (⟨"SieveDesk$Grammar", "begin", "()Z"⟩, 14), (⟨"SieveDesk$Grammar", "lacks", "(I)Z"⟩, 14), (⟨"SieveDesk$Grammar", "takeTest", "()Z"⟩, 14), (⟨"SieveDesk$Grammar", "takeMoreTests", "()Z"⟩, 14), (⟨"SieveDesk$Grammar", "takeTags", "()Z"⟩, 14), (⟨"SieveDesk$Grammar", "takeKind", "(I)Z"⟩, 14)]
theorem lw_r2 : ∀ q ∈ lw_privs_2, lw_okq q := List.forall_mem_cons.mpr ⟨lw_p16, List.forall_mem_cons.mpr ⟨lw_p17, List.forall_mem_cons.mpr ⟨lw_p18, List.forall_mem_cons.mpr ⟨lw_p19, List.forall_mem_cons.mpr ⟨lw_p20, List.forall_mem_cons.mpr ⟨lw_p21, List.forall_mem_cons.mpr ⟨lw_p22, List.forall_mem_cons.mpr ⟨lw_p23, List.forall_mem_cons.mpr ⟨lw_p24, List.forall_mem_cons.mpr ⟨lw_p25, List.forall_mem_cons.mpr ⟨lw_p26, List.forall_mem_cons.mpr ⟨lw_p27, List.forall_mem_cons.mpr ⟨lw_p28, List.forall_mem_cons.mpr ⟨lw_p29, List.forall_mem_cons.mpr ⟨lw_p30, List.forall_mem_cons.mpr ⟨lw_p31, fun _ h => absurd h List.not_mem_nil⟩⟩⟩⟩⟩⟩⟩⟩⟩⟩⟩⟩⟩⟩⟩⟩
theorem lw_p32 : lw_okq (⟨"SieveDesk$Grammar", "takeString", "(I)Z"⟩, 14) := ⟨⟨by decide +kernel, by decide +kernel⟩, List.mem_of_getElem? (i := 80) (by decide +kernel), List.mem_of_getElem? (i := 457) (by decide +kernel), List.mem_of_getElem? (i := 458) (by decide +kernel)⟩
theorem lw_p33 : lw_okq (⟨"SieveDesk$Grammar", "takeStrings", "(I)Z"⟩, 14) := ⟨⟨by decide +kernel, by decide +kernel⟩, List.mem_of_getElem? (i := 80) (by decide +kernel), List.mem_of_getElem? (i := 461) (by decide +kernel), List.mem_of_getElem? (i := 462) (by decide +kernel)⟩
theorem lw_p34 : lw_okq (⟨"SieveDesk$Grammar", "takeSign", "(C)Z"⟩, 14) := ⟨⟨by decide +kernel, by decide +kernel⟩, List.mem_of_getElem? (i := 80) (by decide +kernel), List.mem_of_getElem? (i := 465) (by decide +kernel), List.mem_of_getElem? (i := 466) (by decide +kernel)⟩
theorem lw_p35 : lw_okq (⟨"SieveDesk$Grammar", "standsAt", "()I"⟩, 14) := ⟨⟨by decide +kernel, by decide +kernel⟩, List.mem_of_getElem? (i := 80) (by decide +kernel), List.mem_of_getElem? (i := 469) (by decide +kernel), List.mem_of_getElem? (i := 470) (by decide +kernel)⟩
theorem lw_p36 : lw_okq (⟨"SieveDesk", "lineOf", "(I)I"⟩, 5) := ⟨⟨by decide +kernel, by decide +kernel⟩, List.mem_of_getElem? (i := 16) (by decide +kernel), List.mem_of_getElem? (i := 473) (by decide +kernel), List.mem_of_getElem? (i := 474) (by decide +kernel)⟩
theorem lw_p37 : lw_okq (⟨"SieveDeskModel", "next", "()V"⟩, 19) := ⟨⟨by decide +kernel, by decide +kernel⟩, List.mem_of_getElem? (i := 485) (by decide +kernel), List.mem_of_getElem? (i := 622) (by decide +kernel), List.mem_of_getElem? (i := 623) (by decide +kernel)⟩
theorem lw_p38 : lw_okq (⟨"SieveDeskModel", "skip", "()Z"⟩, 19) := ⟨⟨by decide +kernel, by decide +kernel⟩, List.mem_of_getElem? (i := 485) (by decide +kernel), List.mem_of_getElem? (i := 626) (by decide +kernel), List.mem_of_getElem? (i := 627) (by decide +kernel)⟩
theorem lw_p39 : lw_okq (⟨"SieveDeskModel", "peek", "(I)I"⟩, 19) := ⟨⟨by decide +kernel, by decide +kernel⟩, List.mem_of_getElem? (i := 485) (by decide +kernel), List.mem_of_getElem? (i := 630) (by decide +kernel), List.mem_of_getElem? (i := 631) (by decide +kernel)⟩
theorem lw_p40 : lw_okq (⟨"SieveDeskModel", "token", "()I"⟩, 19) := ⟨⟨by decide +kernel, by decide +kernel⟩, List.mem_of_getElem? (i := 485) (by decide +kernel), List.mem_of_getElem? (i := 634) (by decide +kernel), List.mem_of_getElem? (i := 635) (by decide +kernel)⟩
theorem lw_p41 : lw_okq (⟨"SieveDeskModel", "begin", "()V"⟩, 19) := ⟨⟨by decide +kernel, by decide +kernel⟩, List.mem_of_getElem? (i := 485) (by decide +kernel), List.mem_of_getElem? (i := 638) (by decide +kernel), List.mem_of_getElem? (i := 639) (by decide +kernel)⟩
theorem lw_p42 : lw_okq (⟨"SieveDeskModel", "wordOf", "()V"⟩, 19) := ⟨⟨by decide +kernel, by decide +kernel⟩, List.mem_of_getElem? (i := 485) (by decide +kernel), List.mem_of_getElem? (i := 645) (by decide +kernel), List.mem_of_getElem? (i := 646) (by decide +kernel)⟩
theorem lw_p43 : lw_okq (⟨"SieveDeskModel", "add", "(I)V"⟩, 19) := ⟨⟨by decide +kernel, by decide +kernel⟩, List.mem_of_getElem? (i := 485) (by decide +kernel), List.mem_of_getElem? (i := 655) (by decide +kernel), List.mem_of_getElem? (i := 656) (by decide +kernel)⟩
theorem lw_p44 : lw_okq (⟨"SieveDeskModel", "like", "(I)Z"⟩, 19) := ⟨⟨by decide +kernel, by decide +kernel⟩, List.mem_of_getElem? (i := 485) (by decide +kernel), List.mem_of_getElem? (i := 662) (by decide +kernel), List.mem_of_getElem? (i := 663) (by decide +kernel)⟩
theorem lw_p45 : lw_okq (⟨"SieveDeskModel", "which", "(II)I"⟩, 19) := ⟨⟨by decide +kernel, by decide +kernel⟩, List.mem_of_getElem? (i := 485) (by decide +kernel), List.mem_of_getElem? (i := 666) (by decide +kernel), List.mem_of_getElem? (i := 667) (by decide +kernel)⟩
theorem lw_p46 : lw_okq (⟨"SieveDeskModel", "lines", "()I"⟩, 19) := ⟨⟨by decide +kernel, by decide +kernel⟩, List.mem_of_getElem? (i := 485) (by decide +kernel), List.mem_of_getElem? (i := 670) (by decide +kernel), List.mem_of_getElem? (i := 671) (by decide +kernel)⟩
theorem lw_p47 : lw_okq (⟨"SieveDeskModel", "endAt", "(I)I"⟩, 19) := ⟨⟨by decide +kernel, by decide +kernel⟩, List.mem_of_getElem? (i := 485) (by decide +kernel), List.mem_of_getElem? (i := 674) (by decide +kernel), List.mem_of_getElem? (i := 675) (by decide +kernel)⟩
def lw_privs_3 : List (MethodName × Nat) := [(⟨"SieveDesk$Grammar", "takeString", "(I)Z"⟩, 14), (⟨"SieveDesk$Grammar", "takeStrings", "(I)Z"⟩, 14), (⟨"SieveDesk$Grammar", "takeSign", "(C)Z"⟩, 14), (⟨"SieveDesk$Grammar", "standsAt", "()I"⟩, 14), (⟨"SieveDesk", "lineOf", "(I)I"⟩, 5), (⟨"SieveDeskModel", "next", "()V"⟩, 19), (⟨"SieveDeskModel", "skip", "()Z"⟩, 19), (⟨"SieveDeskModel", "peek", "(I)I"⟩, 19), (⟨"SieveDeskModel", "token", "()I"⟩, 19), (⟨"SieveDeskModel", "begin", "()V"⟩, 19), (⟨"SieveDeskModel", "wordOf", "()V"⟩, 19), (⟨"SieveDeskModel", "add", "(I)V"⟩, 19), (⟨"SieveDeskModel", "like", "(I)Z"⟩, 19), (⟨"SieveDeskModel", "which", "(II)I"⟩, 19), (⟨"SieveDeskModel", "lines", "()I"⟩, 19), (⟨"SieveDeskModel", "endAt", "(I)I"⟩, 19)]
theorem lw_r3 : ∀ q ∈ lw_privs_3, lw_okq q := List.forall_mem_cons.mpr ⟨lw_p32, List.forall_mem_cons.mpr ⟨lw_p33, List.forall_mem_cons.mpr ⟨lw_p34, List.forall_mem_cons.mpr ⟨lw_p35, List.forall_mem_cons.mpr ⟨lw_p36, List.forall_mem_cons.mpr ⟨lw_p37, List.forall_mem_cons.mpr ⟨lw_p38, List.forall_mem_cons.mpr ⟨lw_p39, List.forall_mem_cons.mpr ⟨lw_p40, List.forall_mem_cons.mpr ⟨lw_p41, List.forall_mem_cons.mpr ⟨lw_p42, List.forall_mem_cons.mpr ⟨lw_p43, List.forall_mem_cons.mpr ⟨lw_p44, List.forall_mem_cons.mpr ⟨lw_p45, List.forall_mem_cons.mpr ⟨lw_p46, List.forall_mem_cons.mpr ⟨lw_p47, fun _ h => absurd h List.not_mem_nil⟩⟩⟩⟩⟩⟩⟩⟩⟩⟩⟩⟩⟩⟩⟩⟩
theorem lw_p48 : lw_okq (⟨"SieveDeskModel", "digits", "()I"⟩, 19) := ⟨⟨by decide +kernel, by decide +kernel⟩, List.mem_of_getElem? (i := 485) (by decide +kernel), List.mem_of_getElem? (i := 678) (by decide +kernel), List.mem_of_getElem? (i := 679) (by decide +kernel)⟩
theorem lw_p49 : lw_okq (⟨"SieveDeskModel", "quoted", "()I"⟩, 19) := ⟨⟨by decide +kernel, by decide +kernel⟩, List.mem_of_getElem? (i := 485) (by decide +kernel), List.mem_of_getElem? (i := 687) (by decide +kernel), List.mem_of_getElem? (i := 688) (by decide +kernel)⟩
theorem lw_p50 : lw_okq (⟨"SieveDeskModel", "fail", "()V"⟩, 19) := ⟨⟨by decide +kernel, by decide +kernel⟩, List.mem_of_getElem? (i := 485) (by decide +kernel), List.mem_of_getElem? (i := 691) (by decide +kernel), List.mem_of_getElem? (i := 692) (by decide +kernel)⟩
theorem lw_p51 : lw_okq (⟨"SieveDeskModel", "isWord", "(I)Z"⟩, 19) := ⟨⟨by decide +kernel, by decide +kernel⟩, List.mem_of_getElem? (i := 485) (by decide +kernel), List.mem_of_getElem? (i := 695) (by decide +kernel), List.mem_of_getElem? (i := 696) (by decide +kernel)⟩
theorem lw_p52 : lw_okq (⟨"SieveDeskModel", "is", "(I)Z"⟩, 19) := ⟨⟨by decide +kernel, by decide +kernel⟩, List.mem_of_getElem? (i := 485) (by decide +kernel), List.mem_of_getElem? (i := 699) (by decide +kernel), List.mem_of_getElem? (i := 700) (by decide +kernel)⟩
theorem lw_p53 : lw_okq (⟨"SieveDeskModel", "list", "(Z)V"⟩, 19) := ⟨⟨by decide +kernel, by decide +kernel⟩, List.mem_of_getElem? (i := 485) (by decide +kernel), List.mem_of_getElem? (i := 703) (by decide +kernel), List.mem_of_getElem? (i := 704) (by decide +kernel)⟩
theorem lw_p54 : lw_okq (⟨"SieveDeskModel", "isSign", "(I)Z"⟩, 19) := ⟨⟨by decide +kernel, by decide +kernel⟩, List.mem_of_getElem? (i := 485) (by decide +kernel), List.mem_of_getElem? (i := 707) (by decide +kernel), List.mem_of_getElem? (i := 708) (by decide +kernel)⟩
theorem lw_p55 : lw_okq (⟨"SieveDeskModel", "string", "()V"⟩, 19) := ⟨⟨by decide +kernel, by decide +kernel⟩, List.mem_of_getElem? (i := 485) (by decide +kernel), List.mem_of_getElem? (i := 711) (by decide +kernel), List.mem_of_getElem? (i := 712) (by decide +kernel)⟩
theorem lw_p56 : lw_okq (⟨"SieveDeskModel", "require", "()V"⟩, 19) := ⟨⟨by decide +kernel, by decide +kernel⟩, List.mem_of_getElem? (i := 485) (by decide +kernel), List.mem_of_getElem? (i := 715) (by decide +kernel), List.mem_of_getElem? (i := 716) (by decide +kernel)⟩
theorem lw_p57 : lw_okq (⟨"SieveDeskModel", "take", "(I)V"⟩, 19) := ⟨⟨by decide +kernel, by decide +kernel⟩, List.mem_of_getElem? (i := 485) (by decide +kernel), List.mem_of_getElem? (i := 719) (by decide +kernel), List.mem_of_getElem? (i := 720) (by decide +kernel)⟩
theorem lw_p58 : lw_okq (⟨"SieveDeskModel", "push", "(I)V"⟩, 19) := ⟨⟨by decide +kernel, by decide +kernel⟩, List.mem_of_getElem? (i := 485) (by decide +kernel), List.mem_of_getElem? (i := 723) (by decide +kernel), List.mem_of_getElem? (i := 724) (by decide +kernel)⟩
theorem lw_p59 : lw_okq (⟨"SieveDeskModel", "step", "(I)V"⟩, 19) := ⟨⟨by decide +kernel, by decide +kernel⟩, List.mem_of_getElem? (i := 485) (by decide +kernel), List.mem_of_getElem? (i := 727) (by decide +kernel), List.mem_of_getElem? (i := 728) (by decide +kernel)⟩
theorem lw_p60 : lw_okq (⟨"SieveDeskModel", "command", "()V"⟩, 19) := ⟨⟨by decide +kernel, by decide +kernel⟩, List.mem_of_getElem? (i := 485) (by decide +kernel), List.mem_of_getElem? (i := 731) (by decide +kernel), List.mem_of_getElem? (i := 732) (by decide +kernel)⟩
theorem lw_p61 : lw_okq (⟨"SieveDeskModel", "counting", "(I)V"⟩, 19) := ⟨⟨by decide +kernel, by decide +kernel⟩, List.mem_of_getElem? (i := 485) (by decide +kernel), List.mem_of_getElem? (i := 735) (by decide +kernel), List.mem_of_getElem? (i := 736) (by decide +kernel)⟩
theorem lw_p62 : lw_okq (⟨"SieveDeskModel", "needs", "(I)V"⟩, 19) := ⟨⟨by decide +kernel, by decide +kernel⟩, List.mem_of_getElem? (i := 485) (by decide +kernel), List.mem_of_getElem? (i := 739) (by decide +kernel), List.mem_of_getElem? (i := 740) (by decide +kernel)⟩
theorem lw_p63 : lw_okq (⟨"SieveDeskModel", "tags", "(I)V"⟩, 19) := ⟨⟨by decide +kernel, by decide +kernel⟩, List.mem_of_getElem? (i := 485) (by decide +kernel), List.mem_of_getElem? (i := 743) (by decide +kernel), List.mem_of_getElem? (i := 744) (by decide +kernel)⟩
def lw_privs_4 : List (MethodName × Nat) := [(⟨"SieveDeskModel", "digits", "()I"⟩, 19), (⟨"SieveDeskModel", "quoted", "()I"⟩, 19), (⟨"SieveDeskModel", "fail", "()V"⟩, 19), (⟨"SieveDeskModel", "isWord", "(I)Z"⟩, 19), (⟨"SieveDeskModel", "is", "(I)Z"⟩, 19), (⟨"SieveDeskModel", "list", "(Z)V"⟩, 19), (⟨"SieveDeskModel", "isSign", "(I)Z"⟩, 19), (⟨"SieveDeskModel", "string", "()V"⟩, 19), (⟨"SieveDeskModel", "require", "()V"⟩, 19), (⟨"SieveDeskModel", "take", "(I)V"⟩, 19), (⟨"SieveDeskModel", "push", "(I)V"⟩, 19), (⟨"SieveDeskModel", "step", "(I)V"⟩, 19), (⟨"SieveDeskModel", "command", "()V"⟩, 19), (⟨"SieveDeskModel", "counting", "(I)V"⟩, 19), (⟨"SieveDeskModel", "needs", "(I)V"⟩, 19), (⟨"SieveDeskModel", "tags", "(I)V"⟩, 19)]
theorem lw_r4 : ∀ q ∈ lw_privs_4, lw_okq q := List.forall_mem_cons.mpr ⟨lw_p48, List.forall_mem_cons.mpr ⟨lw_p49, List.forall_mem_cons.mpr ⟨lw_p50, List.forall_mem_cons.mpr ⟨lw_p51, List.forall_mem_cons.mpr ⟨lw_p52, List.forall_mem_cons.mpr ⟨lw_p53, List.forall_mem_cons.mpr ⟨lw_p54, List.forall_mem_cons.mpr ⟨lw_p55, List.forall_mem_cons.mpr ⟨lw_p56, List.forall_mem_cons.mpr ⟨lw_p57, List.forall_mem_cons.mpr ⟨lw_p58, List.forall_mem_cons.mpr ⟨lw_p59, List.forall_mem_cons.mpr ⟨lw_p60, List.forall_mem_cons.mpr ⟨lw_p61, List.forall_mem_cons.mpr ⟨lw_p62, List.forall_mem_cons.mpr ⟨lw_p63, fun _ h => absurd h List.not_mem_nil⟩⟩⟩⟩⟩⟩⟩⟩⟩⟩⟩⟩⟩⟩⟩⟩
theorem lw_p64 : lw_okq (⟨"SieveDeskModel", "file", "()V"⟩, 19) := ⟨⟨by decide +kernel, by decide +kernel⟩, List.mem_of_getElem? (i := 485) (by decide +kernel), List.mem_of_getElem? (i := 747) (by decide +kernel), List.mem_of_getElem? (i := 748) (by decide +kernel)⟩
theorem lw_p65 : lw_okq (⟨"SieveDeskModel", "redirect", "()V"⟩, 19) := ⟨⟨by decide +kernel, by decide +kernel⟩, List.mem_of_getElem? (i := 485) (by decide +kernel), List.mem_of_getElem? (i := 751) (by decide +kernel), List.mem_of_getElem? (i := 752) (by decide +kernel)⟩
theorem lw_p66 : lw_okq (⟨"SieveDeskModel", "isDotted", "(IIIZ)Z"⟩, 19) := ⟨⟨by decide +kernel, by decide +kernel⟩, List.mem_of_getElem? (i := 485) (by decide +kernel), List.mem_of_getElem? (i := 755) (by decide +kernel), List.mem_of_getElem? (i := 756) (by decide +kernel)⟩
theorem lw_p67 : lw_okq (⟨"SieveDeskModel", "taken", "()V"⟩, 19) := ⟨⟨by decide +kernel, by decide +kernel⟩, List.mem_of_getElem? (i := 485) (by decide +kernel), List.mem_of_getElem? (i := 762) (by decide +kernel), List.mem_of_getElem? (i := 763) (by decide +kernel)⟩
theorem lw_p68 : lw_okq (⟨"SieveDeskModel", "absence", "()V"⟩, 19) := ⟨⟨by decide +kernel, by decide +kernel⟩, List.mem_of_getElem? (i := 485) (by decide +kernel), List.mem_of_getElem? (i := 766) (by decide +kernel), List.mem_of_getElem? (i := 767) (by decide +kernel)⟩
theorem lw_p69 : lw_okq (⟨"SieveDeskModel", "number", "()V"⟩, 19) := ⟨⟨by decide +kernel, by decide +kernel⟩, List.mem_of_getElem? (i := 485) (by decide +kernel), List.mem_of_getElem? (i := 770) (by decide +kernel), List.mem_of_getElem? (i := 771) (by decide +kernel)⟩
theorem lw_p70 : lw_okq (⟨"SieveDeskModel", "test", "()V"⟩, 19) := ⟨⟨by decide +kernel, by decide +kernel⟩, List.mem_of_getElem? (i := 485) (by decide +kernel), List.mem_of_getElem? (i := 774) (by decide +kernel), List.mem_of_getElem? (i := 775) (by decide +kernel)⟩
theorem lw_p71 : lw_okq (⟨"SieveDeskModel", "how", "(Z)V"⟩, 19) := ⟨⟨by decide +kernel, by decide +kernel⟩, List.mem_of_getElem? (i := 485) (by decide +kernel), List.mem_of_getElem? (i := 778) (by decide +kernel), List.mem_of_getElem? (i := 779) (by decide +kernel)⟩
theorem lw_p72 : lw_okq (⟨"SieveDeskModel", "one", "(II)V"⟩, 19) := ⟨⟨by decide +kernel, by decide +kernel⟩, List.mem_of_getElem? (i := 485) (by decide +kernel), List.mem_of_getElem? (i := 782) (by decide +kernel), List.mem_of_getElem? (i := 783) (by decide +kernel)⟩
def lw_privs_5 : List (MethodName × Nat) := [(⟨"SieveDeskModel", "file", "()V"⟩, 19), (⟨"SieveDeskModel", "redirect", "()V"⟩, 19), (⟨"SieveDeskModel", "isDotted", "(IIIZ)Z"⟩, 19), (⟨"SieveDeskModel", "taken", "()V"⟩, 19), (⟨"SieveDeskModel", "absence", "()V"⟩, 19), (⟨"SieveDeskModel", "number", "()V"⟩, 19), (⟨"SieveDeskModel", "test", "()V"⟩, 19), (⟨"SieveDeskModel", "how", "(Z)V"⟩, 19), (⟨"SieveDeskModel", "one", "(II)V"⟩, 19)]
theorem lw_r5 : ∀ q ∈ lw_privs_5, lw_okq q := List.forall_mem_cons.mpr ⟨lw_p64, List.forall_mem_cons.mpr ⟨lw_p65, List.forall_mem_cons.mpr ⟨lw_p66, List.forall_mem_cons.mpr ⟨lw_p67, List.forall_mem_cons.mpr ⟨lw_p68, List.forall_mem_cons.mpr ⟨lw_p69, List.forall_mem_cons.mpr ⟨lw_p70, List.forall_mem_cons.mpr ⟨lw_p71, List.forall_mem_cons.mpr ⟨lw_p72, fun _ h => absurd h List.not_mem_nil⟩⟩⟩⟩⟩⟩⟩⟩⟩
def lw_privs : List (MethodName × Nat) := lw_privs_1 ++ (lw_privs_2 ++ (lw_privs_3 ++ (lw_privs_4 ++ (lw_privs_5))))
def lw_tbl : List Cond := k2_sels lw_privs ++ tables_1
theorem lw_privs_ok : ∀ q ∈ lw_privs, lw_okq q := by
  show ∀ q ∈ lw_privs_1 ++ (lw_privs_2 ++ (lw_privs_3 ++ (lw_privs_4 ++ (lw_privs_5)))), lw_okq q
  exact List.forall_mem_append.mpr ⟨lw_r1, List.forall_mem_append.mpr ⟨lw_r2, List.forall_mem_append.mpr ⟨lw_r3, List.forall_mem_append.mpr ⟨lw_r4, lw_r5⟩⟩⟩⟩
end
section
/-! the tables' words that last (TT), those that last with the nest links (NT) -/
def TT : List Cond := lw_tbl.filter goodWord
def NT : List Cond := lw_tbl.filter (fun w => w.onTables && w.keepsH)
theorem mem_tt {i : Nat} {w : Cond} (h : lw_tbl[i]? = some w) (hg : goodWord w = true) : w ∈ TT := List.mem_filter.mpr ⟨List.mem_of_getElem? h, hg⟩
theorem mem_nt {i : Nat} {w : Cond} (h : lw_tbl[i]? = some w) (hg : (w.onTables && w.keepsH) = true) : w ∈ NT := List.mem_filter.mpr ⟨List.mem_of_getElem? h, hg⟩
theorem tt_tbl {w : Cond} (h : w ∈ TT) : w ∈ lw_tbl := (List.mem_filter.mp h).1
theorem tt_good {w : Cond} (h : w ∈ TT) : (w.onTables && w.keeps) = true ∨ ∃ ty, w = .arrayClass ty := good_of_word (List.mem_filter.mp h).2
theorem good_tt {ws : List Cond} (h : ∀ w ∈ ws, w ∈ TT) : GoodIn TT ws := fun w hw => ⟨h w hw, tt_good (h w hw)⟩
theorem g_C {c : Cond} (h : c ∈ TT) : GoodIn TT (c :: TT) := good_tt (fun w hw => (List.mem_cons.mp hw).elim (fun e => e ▸ h) id)
theorem g_V {own C : String} {idx : Nat} {y : MethodName} {c : Cond} (h1 : Cond.methodLink own idx y ∈ TT) (h2 : Cond.instanceMethod y ∈ TT) (h3 : Cond.selects C y y ∈ TT) (h4 : Cond.initialized C ∈ TT) (h5 : c ∈ TT) : GoodIn TT (wsV own idx C y (c :: TT)) := good_tt (fun w hw => by
  rcases List.mem_append.mp hw with hw | hw
  · rcases List.mem_cons.mp hw with rfl | hw
    · exact h1
    · rcases List.mem_cons.mp hw with rfl | hw
      · exact h2
      · rcases List.mem_cons.mp hw with rfl | hw
        · exact h3
        · rcases List.mem_cons.mp hw with rfl | hw
          · exact h4
          · cases hw
  · exact (List.mem_cons.mp hw).elim (fun e => e ▸ h5) id)
theorem g_S {own : String} {idx : Nat} {y : MethodName} {c : Cond} (h1 : Cond.methodLink own idx y ∈ TT) (h2 : Cond.static y ∈ TT) (h4 : Cond.initialized y.cls ∈ TT) (h5 : c ∈ TT) : GoodIn TT (va_wsS own idx y (c :: TT)) := good_tt (fun w hw => by
  rcases List.mem_append.mp hw with hw | hw
  · rcases List.mem_cons.mp hw with rfl | hw
    · exact h1
    · rcases List.mem_cons.mp hw with rfl | hw
      · exact h2
      · rcases List.mem_cons.mp hw with rfl | hw
        · exact h4
        · cases hw
  · exact (List.mem_cons.mp hw).elim (fun e => e ▸ h5) id)
def F_S : u_T := fun k => match k with
  | 0 => ("SieveDesk", "script", "[B", true)
  | 1 => ("SieveDesk", "tokens", "LSieveDesk$Tokens;", true)
  | 2 => ("SieveDesk", "grammar", "LSieveDesk$Grammar;", true)
  | 3 => ("SieveDesk", "length", "I", false)
  | _ => ("SieveDesk", "faultPlace", "I", false)
def ty_S : Nat → FieldType := fun k => match k with
  | 0 => .array .byte
  | 1 => .object "SieveDesk$Tokens"
  | 2 => .object "SieveDesk$Grammar"
  | 3 => .int
  | _ => .int
theorem n_S : ∀ a, a < 5 → ∀ b, b < 5 → a ≠ b → (F_S a).2.1 ≠ (F_S b).2.1 := by decide +kernel
theorem ty_S_ok : ∀ k, k < 5 → parseFieldDescriptor (F_S k).2.2.1 = some (ty_S k) := by decide +kernel
def F_T : u_T := fun k => match k with
  | 0 => ("SieveDesk$Tokens", "script", "[B", true)
  | 1 => ("SieveDesk$Tokens", "kinds", "[I", true)
  | 2 => ("SieveDesk$Tokens", "starts", "[I", true)
  | 3 => ("SieveDesk$Tokens", "words", "[LSieveDesk$Word;", true)
  | 4 => ("SieveDesk$Tokens", "says", "[I", true)
  | 5 => ("SieveDesk$Tokens", "quoted", "LSieveDesk$Quoted;", true)
  | 6 => ("SieveDesk$Tokens", "many", "I", false)
  | 7 => ("SieveDesk$Tokens", "length", "I", false)
  | _ => ("SieveDesk$Tokens", "at", "I", false)
def ty_T : Nat → FieldType := fun k => match k with
  | 0 => .array .byte
  | 1 => .array .int
  | 2 => .array .int
  | 3 => .array (.object "SieveDesk$Word")
  | 4 => .array .int
  | 5 => .object "SieveDesk$Quoted"
  | 6 => .int
  | 7 => .int
  | _ => .int
theorem n_T : ∀ a, a < 9 → ∀ b, b < 9 → a ≠ b → (F_T a).2.1 ≠ (F_T b).2.1 := by decide +kernel
theorem ty_T_ok : ∀ k, k < 9 → parseFieldDescriptor (F_T k).2.2.1 = some (ty_T k) := by decide +kernel
def F_Q : u_T := fun k => match k with
  | 0 => ("SieveDesk$Quoted", "bytes", "[B", true)
  | _ => ("SieveDesk$Quoted", "length", "I", false)
def ty_Q : Nat → FieldType := fun k => match k with
  | 0 => .array .byte
  | _ => .int
theorem n_Q : ∀ a, a < 2 → ∀ b, b < 2 → a ≠ b → (F_Q a).2.1 ≠ (F_Q b).2.1 := by decide +kernel
theorem ty_Q_ok : ∀ k, k < 2 → parseFieldDescriptor (F_Q k).2.2.1 = some (ty_Q k) := by decide +kernel
def F_G : u_T := fun k => match k with
  | 0 => ("SieveDesk$Grammar", "tokens", "LSieveDesk$Tokens;", true)
  | 1 => ("SieveDesk$Grammar", "due", "[C", true)
  | 2 => ("SieveDesk$Grammar", "manyDue", "I", false)
  | 3 => ("SieveDesk$Grammar", "at", "I", false)
  | 4 => ("SieveDesk$Grammar", "kind", "I", false)
  | 5 => ("SieveDesk$Grammar", "word", "LSieveDesk$Word;", false)
  | 6 => ("SieveDesk$Grammar", "tag", "LSieveDesk$Word;", false)
  | 7 => ("SieveDesk$Grammar", "says", "I", false)
  | 8 => ("SieveDesk$Grammar", "things", "I", false)
  | 9 => ("SieveDesk$Grammar", "strings", "I", false)
  | 10 => ("SieveDesk$Grammar", "required", "I", false)
  | 11 => ("SieveDesk$Grammar", "blocks", "I", false)
  | 12 => ("SieveDesk$Grammar", "tests", "I", false)
  | _ => ("SieveDesk$Grammar", "openGroups", "I", false)
def ty_G : Nat → FieldType := fun k => match k with
  | 0 => .object "SieveDesk$Tokens"
  | 1 => .array .char
  | 2 => .int
  | 3 => .int
  | 4 => .int
  | 5 => .object "SieveDesk$Word"
  | 6 => .object "SieveDesk$Word"
  | 7 => .int
  | 8 => .int
  | 9 => .int
  | 10 => .int
  | 11 => .int
  | 12 => .int
  | _ => .int
theorem n_G : ∀ a, a < 14 → ∀ b, b < 14 → a ≠ b → (F_G a).2.1 ≠ (F_G b).2.1 := by decide +kernel
theorem ty_G_ok : ∀ k, k < 14 → parseFieldDescriptor (F_G k).2.2.1 = some (ty_G k) := by decide +kernel
def F_M : u_T := fun k => match k with
  | 0 => ("SieveDeskModel", "words", "[J", true)
  | 1 => ("SieveDeskModel", "wordSizes", "[I", true)
  | 2 => ("SieveDeskModel", "src", "[I", true)
  | 3 => ("SieveDeskModel", "srcSize", "I", false)
  | 4 => ("SieveDeskModel", "srcAt", "I", false)
  | 5 => ("SieveDeskModel", "sort", "I", false)
  | 6 => ("SieveDeskModel", "place", "I", false)
  | 7 => ("SieveDeskModel", "size", "I", false)
  | 8 => ("SieveDeskModel", "letters", "[J", true)
  | 9 => ("SieveDeskModel", "text", "[I", true)
  | 10 => ("SieveDeskModel", "faultAt", "I", false)
  | 11 => ("SieveDeskModel", "line", "I", false)
  | 12 => ("SieveDeskModel", "counted", "I", false)
  | 13 => ("SieveDeskModel", "strings", "I", false)
  | 14 => ("SieveDeskModel", "required", "I", false)
  | 15 => ("SieveDeskModel", "blocks", "I", false)
  | 16 => ("SieveDeskModel", "tests", "I", false)
  | 17 => ("SieveDeskModel", "open", "I", false)
  | _ => ("SieveDeskModel", "row", "[I", true)
def ty_M : Nat → FieldType := fun k => match k with
  | 0 => .array .long
  | 1 => .array .int
  | 2 => .array .int
  | 3 => .int
  | 4 => .int
  | 5 => .int
  | 6 => .int
  | 7 => .int
  | 8 => .array .long
  | 9 => .array .int
  | 10 => .int
  | 11 => .int
  | 12 => .int
  | 13 => .int
  | 14 => .int
  | 15 => .int
  | 16 => .int
  | 17 => .int
  | _ => .array .int
theorem n_M : ∀ a, a < 19 → ∀ b, b < 19 → a ≠ b → (F_M a).2.1 ≠ (F_M b).2.1 := by decide +kernel
theorem ty_M_ok : ∀ k, k < 19 → parseFieldDescriptor (F_M k).2.2.1 = some (ty_M k) := by decide +kernel
abbrev cls : List vw_C := [("SieveDesk", F_S, 5), ("SieveDesk$Tokens", F_T, 9), ("SieveDesk$Quoted", F_Q, 2), ("SieveDesk$Grammar", F_G, 14), ("SieveDeskModel", F_M, 19)]
theorem i_S : ∀ w ∈ u_ws "SieveDesk" F_S 5, w ∈ TT := by decide +kernel
theorem i_T : ∀ w ∈ u_ws "SieveDesk$Tokens" F_T 9, w ∈ TT := by decide +kernel
theorem i_Q : ∀ w ∈ u_ws "SieveDesk$Quoted" F_Q 2, w ∈ TT := by decide +kernel
theorem i_G : ∀ w ∈ u_ws "SieveDesk$Grammar" F_G 14, w ∈ TT := by decide +kernel
theorem i_M : ∀ w ∈ u_ws "SieveDeskModel" F_M 19, w ∈ TT := by decide +kernel
/-! the class's world, the reference's world -/
def WE (h : Nat → Nat) (g : Nat → ClassId) (len fp many tlen tat qlen md gat kind : Int32) (wd tg : Value) (gs th st rq bl te og : Int32) (sc kd sr : Nat → Int32) (wo : Nat → Option Nat) (sa qb du : Nat → Int32) : va_W :=
  [(h 0, .inr (0, [.ref (h 1), .ref (h 2), .ref (h 9), .int len, .int fp])),
   (h 1, .inl (g 0, 400, .inl sc)),
   (h 2, .inr (1, [.ref (h 1), .ref (h 3), .ref (h 4), .ref (h 5), .ref (h 6), .ref (h 7), .int many, .int tlen, .int tat])),
   (h 3, .inl (g 1, 401, .inl kd)),
   (h 4, .inl (g 2, 401, .inl sr)),
   (h 5, .inl (g 3, 401, .inr (.inr (.inr (.inr wo))))),
   (h 6, .inl (g 4, 401, .inl sa)),
   (h 7, .inr (2, [.ref (h 8), .int qlen])),
   (h 8, .inl (g 5, 200, .inl qb)),
   (h 9, .inr (3, [.ref (h 2), .ref (h 10), .int md, .int gat, .int kind, wd, tg, .int gs, .int th, .int st, .int rq, .int bl, .int te, .int og])),
   (h 10, .inl (g 6, 200, .inl du))]
def TE (g : Nat → ClassId) : List (ClassId × FieldType) := [(g 0, .byte), (g 1, .int), (g 2, .int), (g 3, .object "SieveDesk$Word"), (g 4, .int), (g 5, .byte), (g 6, .char)]
def ME (h : Nat → Nat) (g : Nat → ClassId) (ss sa so pl sz fa li co st rq bl te op : Int32) (wo : Nat → Int64) (wz sr : Nat → Int32) (le : Nat → Int64) (tx ro : Nat → Int32) : va_W :=
  [(h 0, .inr (4, [.ref (h 1), .ref (h 2), .ref (h 3), .int ss, .int sa, .int so, .int pl, .int sz, .ref (h 4), .ref (h 5), .int fa, .int li, .int co, .int st, .int rq, .int bl, .int te, .int op, .ref (h 6)])),
   (h 1, .inl (g 0, 220, .inr (.inl wo))),
   (h 2, .inl (g 1, 55, .inl wz)),
   (h 3, .inl (g 2, 400, .inl sr)),
   (h 4, .inl (g 3, 4, .inr (.inl le))),
   (h 5, .inl (g 4, 1010, .inl tx)),
   (h 6, .inl (g 5, 80, .inl ro))]
def TM (g : Nat → ClassId) : List (ClassId × FieldType) := [(g 0, .long), (g 1, .int), (g 2, .int), (g 3, .long), (g 4, .int), (g 5, .int)]
/-! what the start gives of constants: k i the words (i < 43), k (50 + i) the names (i < 17), k 80, k 81 the two EACH, k (100 + i) Strings (i < 116), k (300 + i) their bytes, k (500 + i) their lengths -/
def stL : List (String × String × String × Nat) := [("SieveDesk$Word", "NONE", "LSieveDesk$Word;", 0), ("SieveDesk$Word", "REQUIRE", "LSieveDesk$Word;", 1), ("SieveDesk$Word", "ELSIF", "LSieveDesk$Word;", 2), ("SieveDesk$Word", "ELSE", "LSieveDesk$Word;", 3), ("SieveDesk$Word", "IF", "LSieveDesk$Word;", 4), ("SieveDesk$Word", "OVER", "LSieveDesk$Word;", 41), ("SieveDesk$Word", "UNDER", "LSieveDesk$Word;", 42), ("SieveDesk$Word", "EACH", "[LSieveDesk$Word;", 80), ("SieveDesk$Name", "EACH", "[LSieveDesk$Name;", 81)]
def liL : List (String × Nat × String × Nat) := [("SieveDesk$Grammar", 59, "qc.", 207), ("SieveDesk$Grammar", 167, "c", 208), ("SieveDesk$Grammar", 172, "v", 209), ("SieveDesk$Grammar", 174, "tm", 210), ("SieveDesk$Grammar", 176, "g", 211), ("SieveDesk$Tokens", 105, "text", 212), ("SieveDesk$Tokens", 92, ";,()[]{}", 213), ("SieveDesk$Quoted", 43, "!#$%&'*+-/=?^_`{|}~", 214), ("SieveDesk$Quoted", 49, "-", 215)]
def WD (k : Nat → Nat) (i : Nat) (A : Nat → Prop) (U : State) (H : Heap) : Prop := va_O "SieveDesk$Word" (k i) A U H ∧ (∃ r : Int32, va_OF "SieveDesk$Word" "role" "I" (.int r) (k i) A U H) ∧ (∃ r : Int32, va_OF "SieveDesk$Word" "needs" "I" (.int r) (k i) A U H) ∧ (∃ r : Int32, va_OF "SieveDesk$Word" "groups" "I" (.int r) (k i) A U H) ∧ va_OF "SieveDesk$Word" "spelling" "Ljava/lang/String;" (.ref (k (100 + 2 * i))) (k i) A U H ∧ va_OF "SieveDesk$Word" "production" "Ljava/lang/String;" (.ref (k (100 + (2 * i + 1)))) (k i) A U H
def NM (k : Nat → Nat) (i : Nat) (A : Nat → Prop) (U : State) (H : Heap) : Prop := va_OF "SieveDesk$Name" "spelling" "Ljava/lang/String;" (.ref (k (100 + (90 + i)))) (k (50 + i)) A U H ∧ ∃ r : Int32, va_OF "SieveDesk$Name" "says" "I" (.int r) (k (50 + i)) A U H
def ST (a v n : Nat) (A : Nat → Prop) (U : State) (H : Heap) : Prop := va_O "java/lang/String" a A U H ∧ va_OF "java/lang/String" "coder" "B" (.int 0) a A U H ∧ va_OF "java/lang/String" "value" "[B" (.ref v) a A U H ∧ (∃ f : Nat → Int32, va_T .byte v n (fun j => .int (f j)) A U H) ∧ n ≤ 100
def KE (k : Nat → Nat) (A : Nat → Prop) (U : State) (H : Heap) : Prop :=
  (∀ w ∈ NT, va_Nw w U) ∧ va_AO "SieveDesk$Word" U ∧ (∀ q ∈ stL, va_Z q.1 q.2.1 q.2.2.1 (.ref (k q.2.2.2)) A U H) ∧ (∀ i, i < 43 → WD k i A U H) ∧ (∀ i, i < 17 → NM k i A U H) ∧ (∀ i, i < 116 → ST (k (100 + i)) (k (300 + i)) (k (500 + i)) A U H) ∧
  va_T (.object "SieveDesk$Word") (k 80) 43 (fun i => .ref (k i)) A U H ∧ va_T (.object "SieveDesk$Name") (k 81) 17 (fun i => .ref (k (50 + i))) A U H ∧ (∀ q ∈ liL, vk_R q.1 q.2.1 q.2.2.1 (k q.2.2.2) U) ∧
  va_Z "java/lang/String" "COMPACT_STRINGS" "Z" (.int 1) A U H ∧ va_Zq "jdk/internal/util/Preconditions" "SIOOBE_FORMATTER" "Ljava/util/function/BiFunction;" A U H
theorem WD.narrow {k : Nat → Nat} {i : Nat} {A B : Nat → Prop} {U : State} {H : Heap} (h : WD k i A U H) (hAB : ∀ q, B q → A q) : WD k i B U H := by
  obtain ⟨a1, ⟨r2, a2⟩, ⟨r3, a3⟩, ⟨r4, a4⟩, a5, a6⟩ := h
  exact ⟨a1.narrow hAB, ⟨r2, a2.narrow hAB⟩, ⟨r3, a3.narrow hAB⟩, ⟨r4, a4.narrow hAB⟩, a5.narrow hAB, a6.narrow hAB⟩
theorem WD.kept {k : Nat → Nat} {i : Nat} {A : Nat → Prop} {U : State} {H H1 : Heap} (h : WD k i A U H) (hq : ∀ a : Nat, a < H.size → ¬ A a → H1[a]? = H[a]?) : WD k i A U H1 := by
  obtain ⟨a1, ⟨r2, a2⟩, ⟨r3, a3⟩, ⟨r4, a4⟩, a5, a6⟩ := h
  exact ⟨a1.kept hq, ⟨r2, a2.kept hq⟩, ⟨r3, a3.kept hq⟩, ⟨r4, a4.kept hq⟩, a5.kept hq, a6.kept hq⟩
theorem WD.moved {k : Nat → Nat} {i : Nat} {A : Nat → Prop} {u U : State} {H : Heap} (hv : u.vm.Alike U.vm) (h : WD k i A u H) : WD k i A U H := by
  obtain ⟨a1, ⟨r2, a2⟩, ⟨r3, a3⟩, ⟨r4, a4⟩, a5, a6⟩ := h
  exact ⟨a1.moved hv, ⟨r2, a2.moved hv⟩, ⟨r3, a3.moved hv⟩, ⟨r4, a4.moved hv⟩, a5.moved hv, a6.moved hv⟩
theorem NM.narrow {k : Nat → Nat} {i : Nat} {A B : Nat → Prop} {U : State} {H : Heap} (h : NM k i A U H) (hAB : ∀ q, B q → A q) : NM k i B U H := ⟨h.1.narrow hAB, h.2.choose, h.2.choose_spec.narrow hAB⟩
theorem NM.kept {k : Nat → Nat} {i : Nat} {A : Nat → Prop} {U : State} {H H1 : Heap} (h : NM k i A U H) (hq : ∀ a : Nat, a < H.size → ¬ A a → H1[a]? = H[a]?) : NM k i A U H1 := ⟨h.1.kept hq, h.2.choose, h.2.choose_spec.kept hq⟩
theorem NM.moved {k : Nat → Nat} {i : Nat} {A : Nat → Prop} {u U : State} {H : Heap} (hv : u.vm.Alike U.vm) (h : NM k i A u H) : NM k i A U H := ⟨h.1.moved hv, h.2.choose, h.2.choose_spec.moved hv⟩
theorem ST.narrow {a v n : Nat} {A B : Nat → Prop} {U : State} {H : Heap} (h : ST a v n A U H) (hAB : ∀ q, B q → A q) : ST a v n B U H := by
  obtain ⟨a1, a2, a3, ⟨f, a4⟩, a5⟩ := h
  exact ⟨a1.narrow hAB, a2.narrow hAB, a3.narrow hAB, ⟨f, a4.narrow hAB⟩, a5⟩
theorem ST.kept {a v n : Nat} {A : Nat → Prop} {U : State} {H H1 : Heap} (h : ST a v n A U H) (hq : ∀ a : Nat, a < H.size → ¬ A a → H1[a]? = H[a]?) : ST a v n A U H1 := by
  obtain ⟨a1, a2, a3, ⟨f, a4⟩, a5⟩ := h
  exact ⟨a1.kept hq, a2.kept hq, a3.kept hq, ⟨f, a4.kept hq⟩, a5⟩
theorem ST.moved {a v n : Nat} {A : Nat → Prop} {u U : State} {H : Heap} (hv : u.vm.Alike U.vm) (h : ST a v n A u H) : ST a v n A U H := by
  obtain ⟨a1, a2, a3, ⟨f, a4⟩, a5⟩ := h
  exact ⟨a1.moved hv, a2.moved hv, a3.moved hv, ⟨f, a4.moved hv⟩, a5⟩
theorem KE.narrow {k : Nat → Nat} {A B : Nat → Prop} {U : State} {H : Heap} (h : KE k A U H) (hAB : ∀ q, B q → A q) : KE k B U H := by
  obtain ⟨a1, a2, a3, a4, a5, a6, a7, a8, a9, a10, a11⟩ := h
  exact ⟨a1, a2, fun q hq => (a3 q hq).narrow hAB, fun i hi => (a4 i hi).narrow hAB, fun i hi => (a5 i hi).narrow hAB, fun i hi => (a6 i hi).narrow hAB, a7.narrow hAB, a8.narrow hAB, a9, a10.narrow hAB, a11.narrow hAB⟩
theorem KE.kept {k : Nat → Nat} {A : Nat → Prop} {U : State} {H H1 : Heap} (h : KE k A U H) (hq : ∀ a : Nat, a < H.size → ¬ A a → H1[a]? = H[a]?) : KE k A U H1 := by
  obtain ⟨a1, a2, a3, a4, a5, a6, a7, a8, a9, a10, a11⟩ := h
  exact ⟨a1, a2, fun q h9 => (a3 q h9).kept hq, fun i hi => (a4 i hi).kept hq, fun i hi => (a5 i hi).kept hq, fun i hi => (a6 i hi).kept hq, a7.kept hq, a8.kept hq, a9, a10.kept hq, a11.kept hq⟩
theorem nw_warm {w : Cond} {s U : State} (hw : w ∈ NT) (hW : s.WarmedH U.vm) (h : va_Nw w s) : va_Nw w U := by
  have h1 := (List.mem_filter.mp hw).2
  simp only [Bool.and_eq_true] at h1
  exact va_tabs h1.1 (rfl : (s.setVm U.vm).vm = U.vm) (Cond.onTables_warmH (args' := #[]) (T := s) hW h1.1 h1.2 h)
theorem nw_same {w : Cond} {u U : State} (hw : w ∈ NT) (hv : u.vm = U.vm) (h : va_Nw w u) : va_Nw w U := by
  have h1 := (List.mem_filter.mp hw).2
  simp only [Bool.and_eq_true] at h1
  exact va_Nw.same h1.1 hv h
theorem nw_use {w : Cond} {A : Array Value} {U : State} (hw : w ∈ NT) (h : va_Nw w U) : w.before A U = true := by
  have h1 := (List.mem_filter.mp hw).2
  simp only [Bool.and_eq_true] at h1
  exact va_Nw.use h1.1 h
theorem KE.warm {k : Nat → Nat} {A : Nat → Prop} {s U : State} {H : Heap} (hW : s.WarmedH U.vm) (h : KE k A s H) : KE k A U H := by
  obtain ⟨a1, a2, a3, a4, a5, a6, a7, a8, a9, a10, a11⟩ := h
  exact ⟨fun w hw => nw_warm hw hW (a1 w hw), a2.moved hW.alike, fun q hq => (a3 q hq).moved hW.alike, fun i hi => (a4 i hi).moved hW.alike, fun i hi => (a5 i hi).moved hW.alike, fun i hi => (a6 i hi).moved hW.alike, a7.moved hW.alike, a8.moved hW.alike, fun q hq => (a9 q hq).warm hW, a10.moved hW.alike, a11.moved hW.alike⟩
theorem KE.same {k : Nat → Nat} {A : Nat → Prop} {s U : State} {H : Heap} (hv : s.vm = U.vm) (h : KE k A s H) : KE k A U H := by
  obtain ⟨a1, a2, a3, a4, a5, a6, a7, a8, a9, a10, a11⟩ := h
  have hal : s.vm.Alike U.vm := hv ▸ Vm.Alike.refl s.vm
  exact ⟨fun w hw => nw_same hw hv (a1 w hw), a2.moved hal, fun q hq => (a3 q hq).moved hal, fun i hi => (a4 i hi).moved hal, fun i hi => (a5 i hi).moved hal, fun i hi => (a6 i hi).moved hal, a7.moved hal, a8.moved hal, fun q hq => (a9 q hq).same hv.symm, a10.moved hal, a11.moved hal⟩
theorem ke_W_NONE {k : Nat → Nat} {A : Nat → Prop} {U : State} {H : Heap} (h : KE k A U H) : va_Z "SieveDesk$Word" "NONE" "LSieveDesk$Word;" (.ref (k 0)) A U H := h.2.2.1 ("SieveDesk$Word", "NONE", "LSieveDesk$Word;", 0) (by decide)
theorem ke_W_REQUIRE {k : Nat → Nat} {A : Nat → Prop} {U : State} {H : Heap} (h : KE k A U H) : va_Z "SieveDesk$Word" "REQUIRE" "LSieveDesk$Word;" (.ref (k 1)) A U H := h.2.2.1 ("SieveDesk$Word", "REQUIRE", "LSieveDesk$Word;", 1) (by decide)
theorem ke_W_ELSIF {k : Nat → Nat} {A : Nat → Prop} {U : State} {H : Heap} (h : KE k A U H) : va_Z "SieveDesk$Word" "ELSIF" "LSieveDesk$Word;" (.ref (k 2)) A U H := h.2.2.1 ("SieveDesk$Word", "ELSIF", "LSieveDesk$Word;", 2) (by decide)
theorem ke_W_ELSE {k : Nat → Nat} {A : Nat → Prop} {U : State} {H : Heap} (h : KE k A U H) : va_Z "SieveDesk$Word" "ELSE" "LSieveDesk$Word;" (.ref (k 3)) A U H := h.2.2.1 ("SieveDesk$Word", "ELSE", "LSieveDesk$Word;", 3) (by decide)
theorem ke_W_IF {k : Nat → Nat} {A : Nat → Prop} {U : State} {H : Heap} (h : KE k A U H) : va_Z "SieveDesk$Word" "IF" "LSieveDesk$Word;" (.ref (k 4)) A U H := h.2.2.1 ("SieveDesk$Word", "IF", "LSieveDesk$Word;", 4) (by decide)
theorem ke_W_OVER {k : Nat → Nat} {A : Nat → Prop} {U : State} {H : Heap} (h : KE k A U H) : va_Z "SieveDesk$Word" "OVER" "LSieveDesk$Word;" (.ref (k 41)) A U H := h.2.2.1 ("SieveDesk$Word", "OVER", "LSieveDesk$Word;", 41) (by decide)
theorem ke_W_UNDER {k : Nat → Nat} {A : Nat → Prop} {U : State} {H : Heap} (h : KE k A U H) : va_Z "SieveDesk$Word" "UNDER" "LSieveDesk$Word;" (.ref (k 42)) A U H := h.2.2.1 ("SieveDesk$Word", "UNDER", "LSieveDesk$Word;", 42) (by decide)
theorem ke_W_EACH {k : Nat → Nat} {A : Nat → Prop} {U : State} {H : Heap} (h : KE k A U H) : va_Z "SieveDesk$Word" "EACH" "[LSieveDesk$Word;" (.ref (k 80)) A U H := h.2.2.1 ("SieveDesk$Word", "EACH", "[LSieveDesk$Word;", 80) (by decide)
theorem ke_N_EACH {k : Nat → Nat} {A : Nat → Prop} {U : State} {H : Heap} (h : KE k A U H) : va_Z "SieveDesk$Name" "EACH" "[LSieveDesk$Name;" (.ref (k 81)) A U H := h.2.2.1 ("SieveDesk$Name", "EACH", "[LSieveDesk$Name;", 81) (by decide)
theorem ke_l207 {k : Nat → Nat} {A : Nat → Prop} {U : State} {H : Heap} (h : KE k A U H) : vk_R "SieveDesk$Grammar" 59 "qc." (k 207) U := h.2.2.2.2.2.2.2.2.1 ("SieveDesk$Grammar", 59, "qc.", 207) (by decide)
theorem ke_l208 {k : Nat → Nat} {A : Nat → Prop} {U : State} {H : Heap} (h : KE k A U H) : vk_R "SieveDesk$Grammar" 167 "c" (k 208) U := h.2.2.2.2.2.2.2.2.1 ("SieveDesk$Grammar", 167, "c", 208) (by decide)
theorem ke_l209 {k : Nat → Nat} {A : Nat → Prop} {U : State} {H : Heap} (h : KE k A U H) : vk_R "SieveDesk$Grammar" 172 "v" (k 209) U := h.2.2.2.2.2.2.2.2.1 ("SieveDesk$Grammar", 172, "v", 209) (by decide)
theorem ke_l210 {k : Nat → Nat} {A : Nat → Prop} {U : State} {H : Heap} (h : KE k A U H) : vk_R "SieveDesk$Grammar" 174 "tm" (k 210) U := h.2.2.2.2.2.2.2.2.1 ("SieveDesk$Grammar", 174, "tm", 210) (by decide)
theorem ke_l211 {k : Nat → Nat} {A : Nat → Prop} {U : State} {H : Heap} (h : KE k A U H) : vk_R "SieveDesk$Grammar" 176 "g" (k 211) U := h.2.2.2.2.2.2.2.2.1 ("SieveDesk$Grammar", 176, "g", 211) (by decide)
theorem ke_l212 {k : Nat → Nat} {A : Nat → Prop} {U : State} {H : Heap} (h : KE k A U H) : vk_R "SieveDesk$Tokens" 105 "text" (k 212) U := h.2.2.2.2.2.2.2.2.1 ("SieveDesk$Tokens", 105, "text", 212) (by decide)
theorem ke_l213 {k : Nat → Nat} {A : Nat → Prop} {U : State} {H : Heap} (h : KE k A U H) : vk_R "SieveDesk$Tokens" 92 ";,()[]{}" (k 213) U := h.2.2.2.2.2.2.2.2.1 ("SieveDesk$Tokens", 92, ";,()[]{}", 213) (by decide)
theorem ke_l214 {k : Nat → Nat} {A : Nat → Prop} {U : State} {H : Heap} (h : KE k A U H) : vk_R "SieveDesk$Quoted" 43 "!#$%&'*+-/=?^_`{|}~" (k 214) U := h.2.2.2.2.2.2.2.2.1 ("SieveDesk$Quoted", 43, "!#$%&'*+-/=?^_`{|}~", 214) (by decide)
theorem ke_l215 {k : Nat → Nat} {A : Nat → Prop} {U : State} {H : Heap} (h : KE k A U H) : vk_R "SieveDesk$Quoted" 49 "-" (k 215) U := h.2.2.2.2.2.2.2.2.1 ("SieveDesk$Quoted", 49, "-", 215) (by decide)
theorem ke_w {k : Nat → Nat} {A : Nat → Prop} {U : State} {H : Heap} (h : KE k A U H) {i : Nat} (hi : i < 43) : WD k i A U H := h.2.2.2.1 i hi
theorem ke_n {k : Nat → Nat} {A : Nat → Prop} {U : State} {H : Heap} (h : KE k A U H) {i : Nat} (hi : i < 17) : NM k i A U H := h.2.2.2.2.1 i hi
theorem ke_s {k : Nat → Nat} {A : Nat → Prop} {U : State} {H : Heap} (h : KE k A U H) {i : Nat} (hi : i < 116) : ST (k (100 + i)) (k (300 + i)) (k (500 + i)) A U H := h.2.2.2.2.2.1 i hi
theorem ke_tw {k : Nat → Nat} {A : Nat → Prop} {U : State} {H : Heap} (h : KE k A U H) : va_T (.object "SieveDesk$Word") (k 80) 43 (fun i => .ref (k i)) A U H := h.2.2.2.2.2.2.1
theorem ke_tn {k : Nat → Nat} {A : Nat → Prop} {U : State} {H : Heap} (h : KE k A U H) : va_T (.object "SieveDesk$Name") (k 81) 17 (fun i => .ref (k (50 + i))) A U H := h.2.2.2.2.2.2.2.1
theorem ke_cs {k : Nat → Nat} {A : Nat → Prop} {U : State} {H : Heap} (h : KE k A U H) : va_Z "java/lang/String" "COMPACT_STRINGS" "Z" (.int 1) A U H := h.2.2.2.2.2.2.2.2.2.1
theorem ke_sf {k : Nat → Nat} {A : Nat → Prop} {U : State} {H : Heap} (h : KE k A U H) : va_Zq "jdk/internal/util/Preconditions" "SIOOBE_FORMATTER" "Ljava/util/function/BiFunction;" A U H := h.2.2.2.2.2.2.2.2.2.2
/-! a contract's start: the world ws, the constants; its end -/
def PX (dC : Nat → ClassId) (dI : Nat → Nat → Nat) (k : Nat → Nat) (tys : List (ClassId × FieldType)) (ws : va_W) (sz : Nat) (U : State) : Prop := U.heap.size = sz ∧ KE k (va_A ws sz) U U.heap ∧ va_P (dC, dI) cls ws U.heap ∧ va_K (dC, dI) cls tys U ∧ va_D (fun _ => True) ws
def BX (dC : Nat → ClassId) (dI : Nat → Nat → Nat) (tys : List (ClassId × FieldType)) (A : Nat → Prop) (ws : va_W) (t : State) : Prop := va_P (dC, dI) cls ws t.heap ∧ va_K (dC, dI) cls tys t ∧ va_D A ws
def PJ (k : Nat → Nat) (U : State) : Prop := KE k (fun _ => False) U U.heap
theorem fb_X {dC : Nat → ClassId} {dI : Nat → Nat → Nat} {k : Nat → Nat} {tys : List (ClassId × FieldType)} {ws : va_W} {sz : Nat} {av : List Value} : FrameBlind (va_Pc av (PX dC dI k tys ws sz)) := fun a U g mk q => by
  obtain ⟨q0, q1, q2, q3, q4, q5⟩ := q
  exact ⟨q0, q1, q2.same (s := U) (U := U.calling g mk a) rfl, q3, va_K.moved (u := U) (U := U.calling g mk a) (Vm.Alike.refl U.vm) q4, q5⟩
theorem pre_X {dC : Nat → ClassId} {dI : Nat → Nat → Nat} {k : Nat → Nat} {tys : List (ClassId × FieldType)} {ws : va_W} {av : List Value} {A : Nat → Prop} {s : State} {H : Heap} {locs : List Loc} (hE : KE k A s s.heap) (hS : va_S A s.heap H locs) (hF : ∀ q, va_A ws H.size q → A q) (hP : va_P (dC, dI) cls ws H) (hK : va_K (dC, dI) cls tys s) (hD : va_D A ws) : ∀ U : State, U.heap = H → s.WarmedH U.vm → va_Pc av (PX dC dI k tys ws H.size) av.toArray U := fun U hU hW => by
  subst hU
  exact ⟨rfl, rfl, ((hE.kept hS.2.1).narrow hF).warm hW, hP, va_K.moved hW.alike hK, hD.weaken (fun _ _ _ _ => trivial)⟩
theorem fb_J {k : Nat → Nat} {av : List Value} : FrameBlind (va_Pc av (PJ k)) := fun a U g mk q => by
  obtain ⟨q0, q1⟩ := q
  exact ⟨q0, q1.same (s := U) (U := U.calling g mk a) rfl⟩
theorem pre_J {k : Nat → Nat} {av : List Value} {A : Nat → Prop} {s : State} {H : Heap} {locs : List Loc} (hE : KE k A s s.heap) (hS : va_S A s.heap H locs) : ∀ U : State, U.heap = H → s.WarmedH U.vm → va_Pc av (PJ k) av.toArray U := fun U hU hW => by
  subst hU
  exact ⟨rfl, ((hE.kept hS.2.1).narrow (fun _ h => h.elim)).warm hW⟩
section WEV
variable {p : Program} {l : Launch} {e : Env} {R : Room} {s : State} {m : MethodId} {args : Array Value} {below : List Frame} {meth : Method} {c : Code} {H : Heap} {locs : List Loc} {cells slots : Nat} {Q : State → Prop} {cc : ByteArray} {pc : Nat} {ls : Array Slot} {rest : List Value}
theorem lv_ev {x y : Int32} (h : x = y) (kk : W p l e R s m args below meth c H locs cells slots Q (F0 m pc ls (.int y :: rest))) : W p l e R s m args below meth c H locs cells slots Q (F0 m pc ls (.int x :: rest)) := h ▸ kk
theorem vk_getfN (hexec : p.tables.exec = Jvm.exec) (hb : c.code = cc) {o n d own ref host : String} {index q : Nat} {v : Value} {A : Nat → Prop} (hE : va_OF o n d v q A s s.heap) (hS : va_S A s.heap H locs) (hown : s.vm.findClass own = some m.cls) (hlink : (Cond.fieldLinkNest own index ref n d host).before args s = true) (hsame : ∀ x, s.fieldFound? o n d = some x → s.fieldFound? ref n d = some x) (hdg : decode cc pc = .ok (.getfield index, 3)) (kk : W p l e R s m args below meth c H locs cells slots Q (F0 m (pc + 3) ls (v :: rest))) : W p l e R s m args below meth c H locs cells slots Q (F0 m pc ls (.ref q :: rest)) := by
  obtain ⟨cf, k, i, f, cell, h1, h2, h3, h4, h5, h6⟩ := hE
  exact va_Wgetf hexec hb hown hlink (hsame _ h1) h2 (by rw [hS.2.1 q (Array.getElem?_eq_some_iff.mp h3).1 h6]; exact h3) h4 h5 rfl rfl hdg kk
theorem va_lastG {D : va_G} {cl : List vw_C} {tys : List (ClassId × FieldType)} {ws : va_W} {A : Nat → Prop} {H0 : Heap} {a : Nat} (hexec : p.tables.exec = Jvm.exec) (hb : c.code = cc) (hK : va_K D cl tys s) (hP : va_P D cl ws H) (hD : va_D A ws) (hS : va_S A H0 H locs) (q0 t0 : Nat) {cA : ClassId} {n : Nat} {f : Nat → Int64} (ha : ws[q0]? = some (a, .inl (cA, n, .inr (.inl f)))) (ht : tys[t0]? = some (cA, .long)) {i : Int32} {x : Int64} (hin : vp_in i n) (hdg : decode cc pc = .ok (.lastore, 1)) (kk : ∀ (f1 : Nat → Int64) (H1 : Heap) (locs1 : List Loc), va_P D cl (ws.set q0 (a, .inl (cA, n, .inr (.inl f1)))) H1 → va_D A (ws.set q0 (a, .inl (cA, n, .inr (.inl f1)))) → va_S A H0 H1 locs1 → W p l e R s m args below meth c H1 locs1 cells slots Q (F0 m (pc + 1) ls rest)) : W p l e R s m args below meth c H locs cells slots Q (F0 m pc ls (.long x :: .int i :: .ref a :: rest)) := va_last hexec hb hK hP hD hS q0 t0 ha ht hin hdg (fun H1 locs1 h1 h2 h3 => kk _ H1 locs1 h1 h2 h3)
theorem va_iastG {D : va_G} {cl : List vw_C} {tys : List (ClassId × FieldType)} {ws : va_W} {A : Nat → Prop} {H0 : Heap} {a : Nat} (hexec : p.tables.exec = Jvm.exec) (hb : c.code = cc) (hK : va_K D cl tys s) (hP : va_P D cl ws H) (hD : va_D A ws) (hS : va_S A H0 H locs) (q0 t0 : Nat) {cA : ClassId} {n : Nat} {f : Nat → Int32} (ha : ws[q0]? = some (a, .inl (cA, n, .inl f))) (ht : tys[t0]? = some (cA, .int)) {i : Int32} {x : Int32} (hin : vp_in i n) (hdg : decode cc pc = .ok (.iastore, 1)) (kk : ∀ (f1 : Nat → Int32) (H1 : Heap) (locs1 : List Loc), va_P D cl (ws.set q0 (a, .inl (cA, n, .inl f1))) H1 → va_D A (ws.set q0 (a, .inl (cA, n, .inl f1))) → va_S A H0 H1 locs1 → W p l e R s m args below meth c H1 locs1 cells slots Q (F0 m (pc + 1) ls rest)) : W p l e R s m args below meth c H locs cells slots Q (F0 m pc ls (.int x :: .int i :: .ref a :: rest)) := va_iast hexec hb hK hP hD hS q0 t0 ha ht hin hdg (fun H1 locs1 h1 h2 h3 => kk _ H1 locs1 h1 h2 h3)
end WEV
theorem oo_recv {E : String} {t : Nat} {A : Nat → Prop} {s : State} {H : Heap} {locs : List Loc} (h : va_O E t A s s.heap) (hS : va_S A s.heap H locs) : ∃ cell : Cell, H[t]? = some cell ∧ cell.vm.isStatics = false ∧ s.vm.findClass E = some cell.cls := by
  obtain ⟨cell, h1, h2, h3, h4⟩ := h
  exact ⟨cell, by rw [hS.2.1 t (Array.getElem?_eq_some_iff.mp h1).1 h4]; exact h1, h2, h3⟩
end
section
theorem mem_t0 {i : Nat} {w : Cond} (h : (k2_sels lw_privs)[i]? = some w) (hg : goodWord w = true) : w ∈ TT := List.mem_filter.mpr ⟨List.mem_append_left _ (List.mem_of_getElem? h), hg⟩
theorem mem_t1 {i : Nat} {w : Cond} (h : tables_1_1[i]? = some w) (hg : goodWord w = true) : w ∈ TT := List.mem_filter.mpr ⟨List.mem_append_right _ (List.mem_append_left _ (List.mem_of_getElem? h)), hg⟩
theorem mem_t2 {i : Nat} {w : Cond} (h : tables_1_2[i]? = some w) (hg : goodWord w = true) : w ∈ TT := List.mem_filter.mpr ⟨List.mem_append_right _ (List.mem_append_right _ (List.mem_append_left _ (List.mem_of_getElem? h))), hg⟩
theorem mem_t3 {i : Nat} {w : Cond} (h : tables_1_3[i]? = some w) (hg : goodWord w = true) : w ∈ TT := List.mem_filter.mpr ⟨List.mem_append_right _ (List.mem_append_right _ (List.mem_append_right _ (List.mem_append_left _ (List.mem_of_getElem? h)))), hg⟩
theorem mem_t4 {i : Nat} {w : Cond} (h : tables_1_4[i]? = some w) (hg : goodWord w = true) : w ∈ TT := List.mem_filter.mpr ⟨List.mem_append_right _ (List.mem_append_right _ (List.mem_append_right _ (List.mem_append_right _ (List.mem_of_getElem? h)))), hg⟩
abbrev b_D_spelled : ByteArray := prog_6_method_4_code
def y_D_spelled : MethodName := ⟨"SieveDesk$Word", "spelled", "([BII)LSieveDesk$Word;"⟩
abbrev b_G_advance : ByteArray := prog_2_method_4_code
def y_G_advance : MethodName := ⟨"SieveDesk$Grammar", "advance", "()V"⟩
abbrev b_G_begin : ByteArray := prog_2_method_9_code
def y_G_begin : MethodName := ⟨"SieveDesk$Grammar", "begin", "()Z"⟩
abbrev b_G_expect : ByteArray := prog_2_method_5_code
def y_G_expect : MethodName := ⟨"SieveDesk$Grammar", "expect", "(Ljava/lang/String;)V"⟩
abbrev b_G_follow : ByteArray := prog_2_method_8_code
def y_G_follow : MethodName := ⟨"SieveDesk$Grammar", "follow", "(LSieveDesk$Word;)Z"⟩
abbrev b_G_init : ByteArray := prog_2_method_1_code
def y_G_init : MethodName := ⟨"SieveDesk$Grammar", "<init>", "(LSieveDesk$Tokens;)V"⟩
abbrev b_G_lacks : ByteArray := prog_2_method_7_code
def y_G_lacks : MethodName := ⟨"SieveDesk$Grammar", "lacks", "(I)Z"⟩
abbrev b_G_reads : ByteArray := prog_2_method_2_code
def y_G_reads : MethodName := ⟨"SieveDesk$Grammar", "reads", "()Z"⟩
abbrev b_G_standsAt : ByteArray := prog_2_method_3_code
def y_G_standsAt : MethodName := ⟨"SieveDesk$Grammar", "standsAt", "()I"⟩
abbrev b_G_take : ByteArray := prog_2_method_6_code
def y_G_take : MethodName := ⟨"SieveDesk$Grammar", "take", "(C)Z"⟩
abbrev b_G_takeCommands : ByteArray := prog_2_method_10_code
def y_G_takeCommands : MethodName := ⟨"SieveDesk$Grammar", "takeCommands", "()Z"⟩
abbrev b_G_takeKind : ByteArray := prog_2_method_16_code
def y_G_takeKind : MethodName := ⟨"SieveDesk$Grammar", "takeKind", "(I)Z"⟩
abbrev b_G_takeMoreTests : ByteArray := prog_2_method_12_code
def y_G_takeMoreTests : MethodName := ⟨"SieveDesk$Grammar", "takeMoreTests", "()Z"⟩
abbrev b_G_takeSign : ByteArray := prog_2_method_17_code
def y_G_takeSign : MethodName := ⟨"SieveDesk$Grammar", "takeSign", "(C)Z"⟩
abbrev b_G_takeString : ByteArray := prog_2_method_15_code
def y_G_takeString : MethodName := ⟨"SieveDesk$Grammar", "takeString", "(I)Z"⟩
abbrev b_G_takeStrings : ByteArray := prog_2_method_14_code
def y_G_takeStrings : MethodName := ⟨"SieveDesk$Grammar", "takeStrings", "(I)Z"⟩
abbrev b_G_takeTags : ByteArray := prog_2_method_13_code
def y_G_takeTags : MethodName := ⟨"SieveDesk$Grammar", "takeTags", "()Z"⟩
abbrev b_G_takeTest : ByteArray := prog_2_method_11_code
def y_G_takeTest : MethodName := ⟨"SieveDesk$Grammar", "takeTest", "()Z"⟩
abbrev b_JC_highSurrogate : ByteArray := prog_9_method_28_code
def y_JC_highSurrogate : MethodName := ⟨"java/lang/Character", "highSurrogate", "(I)C"⟩
abbrev b_JC_isValidCodePoint : ByteArray := prog_9_method_11_code
def y_JC_isValidCodePoint : MethodName := ⟨"java/lang/Character", "isValidCodePoint", "(I)Z"⟩
abbrev b_JC_lowSurrogate : ByteArray := prog_9_method_29_code
def y_JC_lowSurrogate : MethodName := ⟨"java/lang/Character", "lowSurrogate", "(I)C"⟩
abbrev b_JL_canEncode : ByteArray := prog_13_method_4_code
def y_JL_canEncode : MethodName := ⟨"java/lang/StringLatin1", "canEncode", "(I)Z"⟩
abbrev b_JL_charAt : ByteArray := prog_13_method_2_code
def y_JL_charAt : MethodName := ⟨"java/lang/StringLatin1", "charAt", "([BI)C"⟩
abbrev b_JL_indexOf : ByteArray := prog_13_method_22_code
def y_JL_indexOf : MethodName := ⟨"java/lang/StringLatin1", "indexOf", "([BIII)I"⟩
abbrev b_JL_indexOfChar : ByteArray := prog_13_method_23_code
def y_JL_indexOfChar : MethodName := ⟨"java/lang/StringLatin1", "indexOfChar", "([BIII)I"⟩
abbrev b_JM_max : ByteArray := prog_11_method_65_code
def y_JM_max : MethodName := ⟨"java/lang/Math", "max", "(II)I"⟩
abbrev b_JM_min0 : ByteArray := prog_11_method_69_code
def y_JM_min0 : MethodName := ⟨"java/lang/Math", "min", "(II)I"⟩
abbrev b_JM_min1 : ByteArray := prog_11_method_70_code
def y_JM_min1 : MethodName := ⟨"java/lang/Math", "min", "(JJ)J"⟩
abbrev b_JP_checkFromToIndex : ByteArray := prog_15_method_12_code
def y_JP_checkFromToIndex : MethodName := ⟨"jdk/internal/util/Preconditions", "checkFromToIndex", "(IIILjava/util/function/BiFunction;)I"⟩
abbrev b_JP_checkIndex : ByteArray := prog_15_method_11_code
def y_JP_checkIndex : MethodName := ⟨"jdk/internal/util/Preconditions", "checkIndex", "(IILjava/util/function/BiFunction;)I"⟩
abbrev b_JS_charAt : ByteArray := prog_12_method_56_code
def y_JS_charAt : MethodName := ⟨"java/lang/String", "charAt", "(I)C"⟩
abbrev b_JS_checkBoundsBeginEnd : ByteArray := prog_12_method_158_code
def y_JS_checkBoundsBeginEnd : MethodName := ⟨"java/lang/String", "checkBoundsBeginEnd", "(III)V"⟩
abbrev b_JS_checkIndex : ByteArray := prog_12_method_155_code
def y_JS_checkIndex : MethodName := ⟨"java/lang/String", "checkIndex", "(II)V"⟩
abbrev b_JS_coder : ByteArray := prog_12_method_152_code
def y_JS_coder : MethodName := ⟨"java/lang/String", "coder", "()B"⟩
abbrev b_JS_indexOf0 : ByteArray := prog_12_method_79_code
def y_JS_indexOf0 : MethodName := ⟨"java/lang/String", "indexOf", "(I)I"⟩
abbrev b_JS_indexOf1 : ByteArray := prog_12_method_80_code
def y_JS_indexOf1 : MethodName := ⟨"java/lang/String", "indexOf", "(II)I"⟩
abbrev b_JS_isLatin1 : ByteArray := prog_12_method_154_code
def y_JS_isLatin1 : MethodName := ⟨"java/lang/String", "isLatin1", "()Z"⟩
abbrev b_JS_length : ByteArray := prog_12_method_54_code
def y_JS_length : MethodName := ⟨"java/lang/String", "length", "()I"⟩
abbrev b_JU_charAt : ByteArray := prog_14_method_83_code
def y_JU_charAt : MethodName := ⟨"java/lang/StringUTF16", "charAt", "([BI)C"⟩
abbrev b_JU_checkBoundsBeginEnd : ByteArray := prog_14_method_93_code
def y_JU_checkBoundsBeginEnd : MethodName := ⟨"java/lang/StringUTF16", "checkBoundsBeginEnd", "(II[B)V"⟩
abbrev b_JU_checkIndex : ByteArray := prog_14_method_91_code
def y_JU_checkIndex : MethodName := ⟨"java/lang/StringUTF16", "checkIndex", "(I[B)V"⟩
abbrev b_JU_getChar : ByteArray := prog_14_method_5_code
def y_JU_getChar : MethodName := ⟨"java/lang/StringUTF16", "getChar", "([BI)C"⟩
abbrev b_JU_indexOf : ByteArray := prog_14_method_40_code
def y_JU_indexOf : MethodName := ⟨"java/lang/StringUTF16", "indexOf", "([BIII)I"⟩
abbrev b_JU_indexOfChar : ByteArray := prog_14_method_47_code
def y_JU_indexOfChar : MethodName := ⟨"java/lang/StringUTF16", "indexOfChar", "([BIII)I"⟩
abbrev b_JU_indexOfCharUnsafe : ByteArray := prog_14_method_48_code
def y_JU_indexOfCharUnsafe : MethodName := ⟨"java/lang/StringUTF16", "indexOfCharUnsafe", "([BIII)I"⟩
abbrev b_JU_indexOfSupplementary : ByteArray := prog_14_method_49_code
def y_JU_indexOfSupplementary : MethodName := ⟨"java/lang/StringUTF16", "indexOfSupplementary", "([BIII)I"⟩
abbrev b_JU_length : ByteArray := prog_14_method_6_code
def y_JU_length : MethodName := ⟨"java/lang/StringUTF16", "length", "([B)I"⟩
abbrev b_L_law : ByteArray := code
def y_L_law : MethodName := ⟨"SieveDeskLaw", "law", "([I)Z"⟩
abbrev b_M_absence : ByteArray := prog_8_method_38_code
def y_M_absence : MethodName := ⟨"SieveDeskModel", "absence", "()V"⟩
abbrev b_M_add : ByteArray := prog_8_method_9_code
def y_M_add : MethodName := ⟨"SieveDeskModel", "add", "(I)V"⟩
abbrev b_M_begin : ByteArray := prog_8_method_8_code
def y_M_begin : MethodName := ⟨"SieveDeskModel", "begin", "()V"⟩
abbrev b_M_check : ByteArray := prog_8_method_44_code
def y_M_check : MethodName := ⟨"SieveDeskModel", "check", "()I"⟩
abbrev b_M_command : ByteArray := prog_8_method_32_code
def y_M_command : MethodName := ⟨"SieveDeskModel", "command", "()V"⟩
abbrev b_M_count : ByteArray := prog_8_method_46_code
def y_M_count : MethodName := ⟨"SieveDeskModel", "count", "(I)I"⟩
abbrev b_M_counting : ByteArray := prog_8_method_27_code
def y_M_counting : MethodName := ⟨"SieveDeskModel", "counting", "(I)V"⟩
abbrev b_M_digits : ByteArray := prog_8_method_16_code
def y_M_digits : MethodName := ⟨"SieveDeskModel", "digits", "()I"⟩
abbrev b_M_endAt : ByteArray := prog_8_method_18_code
def y_M_endAt : MethodName := ⟨"SieveDeskModel", "endAt", "(I)I"⟩
abbrev b_M_fail : ByteArray := prog_8_method_20_code
def y_M_fail : MethodName := ⟨"SieveDeskModel", "fail", "()V"⟩
abbrev b_M_file : ByteArray := prog_8_method_34_code
def y_M_file : MethodName := ⟨"SieveDeskModel", "file", "()V"⟩
abbrev b_M_how : ByteArray := prog_8_method_41_code
def y_M_how : MethodName := ⟨"SieveDeskModel", "how", "(Z)V"⟩
abbrev b_M_init : ByteArray := prog_8_method_1_code
def y_M_init : MethodName := ⟨"SieveDeskModel", "<init>", "()V"⟩
abbrev b_M_is : ByteArray := prog_8_method_21_code
def y_M_is : MethodName := ⟨"SieveDeskModel", "is", "(I)Z"⟩
abbrev b_M_isDigit : ByteArray := prog_8_method_5_code
def y_M_isDigit : MethodName := ⟨"SieveDeskModel", "isDigit", "(I)Z"⟩
abbrev b_M_isDotted : ByteArray := prog_8_method_36_code
def y_M_isDotted : MethodName := ⟨"SieveDeskModel", "isDotted", "(IIIZ)Z"⟩
abbrev b_M_isLetter : ByteArray := prog_8_method_4_code
def y_M_isLetter : MethodName := ⟨"SieveDeskModel", "isLetter", "(I)Z"⟩
abbrev b_M_isLocal : ByteArray := prog_8_method_37_code
def y_M_isLocal : MethodName := ⟨"SieveDeskModel", "isLocal", "(I)Z"⟩
abbrev b_M_isSign : ByteArray := prog_8_method_22_code
def y_M_isSign : MethodName := ⟨"SieveDeskModel", "isSign", "(I)Z"⟩
abbrev b_M_isWord : ByteArray := prog_8_method_23_code
def y_M_isWord : MethodName := ⟨"SieveDeskModel", "isWord", "(I)Z"⟩
abbrev b_M_isWordByte : ByteArray := prog_8_method_6_code
def y_M_isWordByte : MethodName := ⟨"SieveDeskModel", "isWordByte", "(I)Z"⟩
abbrev b_M_like : ByteArray := prog_8_method_11_code
def y_M_like : MethodName := ⟨"SieveDeskModel", "like", "(I)Z"⟩
abbrev b_M_lines : ByteArray := prog_8_method_19_code
def y_M_lines : MethodName := ⟨"SieveDeskModel", "lines", "()I"⟩
abbrev b_M_list : ByteArray := prog_8_method_30_code
def y_M_list : MethodName := ⟨"SieveDeskModel", "list", "(Z)V"⟩
abbrev b_M_low : ByteArray := prog_8_method_7_code
def y_M_low : MethodName := ⟨"SieveDeskModel", "low", "(I)I"⟩
abbrev b_M_needs : ByteArray := prog_8_method_26_code
def y_M_needs : MethodName := ⟨"SieveDeskModel", "needs", "(I)V"⟩
abbrev b_M_next : ByteArray := prog_8_method_13_code
def y_M_next : MethodName := ⟨"SieveDeskModel", "next", "()V"⟩
abbrev b_M_number : ByteArray := prog_8_method_39_code
def y_M_number : MethodName := ⟨"SieveDeskModel", "number", "()V"⟩
abbrev b_M_one : ByteArray := prog_8_method_42_code
def y_M_one : MethodName := ⟨"SieveDeskModel", "one", "(II)V"⟩
abbrev b_M_peek : ByteArray := prog_8_method_3_code
def y_M_peek : MethodName := ⟨"SieveDeskModel", "peek", "(I)I"⟩
abbrev b_M_place : ByteArray := prog_8_method_45_code
def y_M_place : MethodName := ⟨"SieveDeskModel", "place", "()I"⟩
abbrev b_M_push : ByteArray := prog_8_method_25_code
def y_M_push : MethodName := ⟨"SieveDeskModel", "push", "(I)V"⟩
abbrev b_M_put : ByteArray := prog_8_method_2_code
def y_M_put : MethodName := ⟨"SieveDeskModel", "put", "(JI)Z"⟩
abbrev b_M_quoted : ByteArray := prog_8_method_17_code
def y_M_quoted : MethodName := ⟨"SieveDeskModel", "quoted", "()I"⟩
abbrev b_M_redirect : ByteArray := prog_8_method_35_code
def y_M_redirect : MethodName := ⟨"SieveDeskModel", "redirect", "()V"⟩
abbrev b_M_require : ByteArray := prog_8_method_31_code
def y_M_require : MethodName := ⟨"SieveDeskModel", "require", "()V"⟩
abbrev b_M_skip : ByteArray := prog_8_method_12_code
def y_M_skip : MethodName := ⟨"SieveDeskModel", "skip", "()Z"⟩
abbrev b_M_step : ByteArray := prog_8_method_43_code
def y_M_step : MethodName := ⟨"SieveDeskModel", "step", "(I)V"⟩
abbrev b_M_string : ByteArray := prog_8_method_28_code
def y_M_string : MethodName := ⟨"SieveDeskModel", "string", "()V"⟩
abbrev b_M_tags : ByteArray := prog_8_method_33_code
def y_M_tags : MethodName := ⟨"SieveDeskModel", "tags", "(I)V"⟩
abbrev b_M_take : ByteArray := prog_8_method_24_code
def y_M_take : MethodName := ⟨"SieveDeskModel", "take", "(I)V"⟩
abbrev b_M_taken : ByteArray := prog_8_method_29_code
def y_M_taken : MethodName := ⟨"SieveDeskModel", "taken", "()V"⟩
abbrev b_M_test : ByteArray := prog_8_method_40_code
def y_M_test : MethodName := ⟨"SieveDeskModel", "test", "()V"⟩
abbrev b_M_token : ByteArray := prog_8_method_14_code
def y_M_token : MethodName := ⟨"SieveDeskModel", "token", "()I"⟩
abbrev b_M_which : ByteArray := prog_8_method_10_code
def y_M_which : MethodName := ⟨"SieveDeskModel", "which", "(II)I"⟩
abbrev b_M_wordOf : ByteArray := prog_8_method_15_code
def y_M_wordOf : MethodName := ⟨"SieveDeskModel", "wordOf", "()V"⟩
abbrev b_Q_add : ByteArray := prog_4_method_3_code
def y_Q_add : MethodName := ⟨"SieveDesk$Quoted", "add", "(I)Z"⟩
abbrev b_Q_empty : ByteArray := prog_4_method_2_code
def y_Q_empty : MethodName := ⟨"SieveDesk$Quoted", "empty", "()V"⟩
abbrev b_Q_init : ByteArray := prog_4_method_1_code
def y_Q_init : MethodName := ⟨"SieveDesk$Quoted", "<init>", "()V"⟩
abbrev b_Q_isAddress : ByteArray := prog_4_method_6_code
def y_Q_isAddress : MethodName := ⟨"SieveDesk$Quoted", "isAddress", "()Z"⟩
abbrev b_Q_isDotted : ByteArray := prog_4_method_7_code
def y_Q_isDotted : MethodName := ⟨"SieveDesk$Quoted", "isDotted", "(IIILjava/lang/String;)Z"⟩
abbrev b_Q_isMailbox : ByteArray := prog_4_method_5_code
def y_Q_isMailbox : MethodName := ⟨"SieveDesk$Quoted", "isMailbox", "()Z"⟩
abbrev b_Q_says : ByteArray := prog_4_method_4_code
def y_Q_says : MethodName := ⟨"SieveDesk$Quoted", "says", "()I"⟩
abbrev b_S_check : ByteArray := prog_1_method_3_code
def y_S_check : MethodName := ⟨"SieveDesk", "check", "()I"⟩
abbrev b_S_count : ByteArray := prog_1_method_5_code
def y_S_count : MethodName := ⟨"SieveDesk", "count", "(I)I"⟩
abbrev b_S_goesOnWord : ByteArray := prog_1_method_10_code
def y_S_goesOnWord : MethodName := ⟨"SieveDesk", "goesOnWord", "(I)Z"⟩
abbrev b_S_init : ByteArray := prog_1_method_1_code
def y_S_init : MethodName := ⟨"SieveDesk", "<init>", "()V"⟩
abbrev b_S_isDigit : ByteArray := prog_1_method_8_code
def y_S_isDigit : MethodName := ⟨"SieveDesk", "isDigit", "(I)Z"⟩
abbrev b_S_isLetter : ByteArray := prog_1_method_7_code
def y_S_isLetter : MethodName := ⟨"SieveDesk", "isLetter", "(I)Z"⟩
abbrev b_S_lineOf : ByteArray := prog_1_method_6_code
def y_S_lineOf : MethodName := ⟨"SieveDesk", "lineOf", "(I)I"⟩
abbrev b_S_place : ByteArray := prog_1_method_4_code
def y_S_place : MethodName := ⟨"SieveDesk", "place", "()I"⟩
abbrev b_S_put : ByteArray := prog_1_method_2_code
def y_S_put : MethodName := ⟨"SieveDesk", "put", "(JI)Z"⟩
abbrev b_S_same : ByteArray := prog_1_method_11_code
def y_S_same : MethodName := ⟨"SieveDesk", "same", "([BIILjava/lang/String;)Z"⟩
abbrev b_S_startsWord : ByteArray := prog_1_method_9_code
def y_S_startsWord : MethodName := ⟨"SieveDesk", "startsWord", "(I)Z"⟩
abbrev b_T_add : ByteArray := prog_5_method_3_code
def y_T_add : MethodName := ⟨"SieveDesk$Tokens", "add", "(ILSieveDesk$Word;II)V"⟩
abbrev b_T_behindComment : ByteArray := prog_5_method_6_code
def y_T_behindComment : MethodName := ⟨"SieveDesk$Tokens", "behindComment", "(I)I"⟩
abbrev b_T_behindLine : ByteArray := prog_5_method_7_code
def y_T_behindLine : MethodName := ⟨"SieveDesk$Tokens", "behindLine", "(I)I"⟩
abbrev b_T_behindLineEnd : ByteArray := prog_5_method_8_code
def y_T_behindLineEnd : MethodName := ⟨"SieveDesk$Tokens", "behindLineEnd", "(I)I"⟩
abbrev b_T_byteAt : ByteArray := prog_5_method_4_code
def y_T_byteAt : MethodName := ⟨"SieveDesk$Tokens", "byteAt", "(I)I"⟩
abbrev b_T_init : ByteArray := prog_5_method_1_code
def y_T_init : MethodName := ⟨"SieveDesk$Tokens", "<init>", "([B)V"⟩
abbrev b_T_scan : ByteArray := prog_5_method_2_code
def y_T_scan : MethodName := ⟨"SieveDesk$Tokens", "scan", "(I)V"⟩
abbrev b_T_scanNumber : ByteArray := prog_5_method_13_code
def y_T_scanNumber : MethodName := ⟨"SieveDesk$Tokens", "scanNumber", "()Z"⟩
abbrev b_T_scanQuoted : ByteArray := prog_5_method_15_code
def y_T_scanQuoted : MethodName := ⟨"SieveDesk$Tokens", "scanQuoted", "()Z"⟩
abbrev b_T_scanTag : ByteArray := prog_5_method_12_code
def y_T_scanTag : MethodName := ⟨"SieveDesk$Tokens", "scanTag", "()Z"⟩
abbrev b_T_scanText : ByteArray := prog_5_method_16_code
def y_T_scanText : MethodName := ⟨"SieveDesk$Tokens", "scanText", "(I)Z"⟩
abbrev b_T_scanToken : ByteArray := prog_5_method_9_code
def y_T_scanToken : MethodName := ⟨"SieveDesk$Tokens", "scanToken", "()Z"⟩
abbrev b_T_scanWord : ByteArray := prog_5_method_11_code
def y_T_scanWord : MethodName := ⟨"SieveDesk$Tokens", "scanWord", "()Z"⟩
abbrev b_T_shiftOf : ByteArray := prog_5_method_14_code
def y_T_shiftOf : MethodName := ⟨"SieveDesk$Tokens", "shiftOf", "(I)I"⟩
abbrev b_T_skipGap : ByteArray := prog_5_method_5_code
def y_T_skipGap : MethodName := ⟨"SieveDesk$Tokens", "skipGap", "()V"⟩
abbrev b_T_wordEnd : ByteArray := prog_5_method_10_code
def y_T_wordEnd : MethodName := ⟨"SieveDesk$Tokens", "wordEnd", "(I)I"⟩
theorem k_0 : Cond.selects "SieveDesk$Tokens" y_T_scan y_T_scan ∈ TT := mem_t0 (i := 0) rfl rfl
theorem k_1 : Cond.selects "SieveDesk$Tokens" y_T_skipGap y_T_skipGap ∈ TT := mem_t0 (i := 1) rfl rfl
theorem k_2 : Cond.selects "SieveDesk$Tokens" y_T_byteAt y_T_byteAt ∈ TT := mem_t0 (i := 2) rfl rfl
theorem k_3 : Cond.selects "SieveDesk$Tokens" y_T_behindLine y_T_behindLine ∈ TT := mem_t0 (i := 3) rfl rfl
theorem k_4 : Cond.selects "SieveDesk$Tokens" y_T_behindComment y_T_behindComment ∈ TT := mem_t0 (i := 4) rfl rfl
theorem k_5 : Cond.selects "SieveDesk$Tokens" y_T_add y_T_add ∈ TT := mem_t0 (i := 5) rfl rfl
theorem k_6 : Cond.selects "SieveDesk$Tokens" y_T_scanToken y_T_scanToken ∈ TT := mem_t0 (i := 6) rfl rfl
theorem k_7 : Cond.selects "SieveDesk$Tokens" y_T_scanWord y_T_scanWord ∈ TT := mem_t0 (i := 7) rfl rfl
theorem k_8 : Cond.selects "SieveDesk$Tokens" y_T_wordEnd y_T_wordEnd ∈ TT := mem_t0 (i := 8) rfl rfl
theorem k_9 : Cond.selects "SieveDesk$Tokens" y_T_scanText y_T_scanText ∈ TT := mem_t0 (i := 9) rfl rfl
theorem k_10 : Cond.selects "SieveDesk$Tokens" y_T_behindLineEnd y_T_behindLineEnd ∈ TT := mem_t0 (i := 10) rfl rfl
theorem k_11 : Cond.selects "SieveDesk$Tokens" y_T_scanTag y_T_scanTag ∈ TT := mem_t0 (i := 11) rfl rfl
theorem k_12 : Cond.selects "SieveDesk$Tokens" y_T_scanNumber y_T_scanNumber ∈ TT := mem_t0 (i := 12) rfl rfl
theorem k_13 : Cond.selects "SieveDesk$Tokens" y_T_scanQuoted y_T_scanQuoted ∈ TT := mem_t0 (i := 13) rfl rfl
theorem k_14 : Cond.selects "SieveDesk$Quoted" y_Q_empty y_Q_empty ∈ TT := mem_t0 (i := 14) rfl rfl
theorem k_15 : Cond.selects "SieveDesk$Quoted" y_Q_says y_Q_says ∈ TT := mem_t0 (i := 15) rfl rfl
theorem k_16 : Cond.selects "SieveDesk$Quoted" y_Q_isMailbox y_Q_isMailbox ∈ TT := mem_t0 (i := 16) rfl rfl
theorem k_17 : Cond.selects "SieveDesk$Quoted" y_Q_isAddress y_Q_isAddress ∈ TT := mem_t0 (i := 17) rfl rfl
theorem k_18 : Cond.selects "SieveDesk$Quoted" y_Q_isDotted y_Q_isDotted ∈ TT := mem_t0 (i := 18) rfl rfl
theorem k_19 : Cond.selects "SieveDesk$Quoted" y_Q_add y_Q_add ∈ TT := mem_t0 (i := 19) rfl rfl
theorem k_20 : Cond.selects "SieveDesk$Grammar" y_G_reads y_G_reads ∈ TT := mem_t0 (i := 20) rfl rfl
theorem k_21 : Cond.selects "SieveDesk$Grammar" y_G_advance y_G_advance ∈ TT := mem_t0 (i := 21) rfl rfl
theorem k_22 : Cond.selects "SieveDesk$Grammar" y_G_expect y_G_expect ∈ TT := mem_t0 (i := 22) rfl rfl
theorem k_23 : Cond.selects "SieveDesk$Grammar" y_G_take y_G_take ∈ TT := mem_t0 (i := 23) rfl rfl
theorem k_24 : Cond.selects "SieveDesk$Grammar" y_G_follow y_G_follow ∈ TT := mem_t0 (i := 24) rfl rfl
theorem k_25 : Cond.selects "SieveDesk$Grammar" y_G_takeCommands y_G_takeCommands ∈ TT := mem_t0 (i := 25) rfl rfl
theorem k_26 : Cond.selects "SieveDesk$Grammar" y_G_begin y_G_begin ∈ TT := mem_t0 (i := 26) rfl rfl
theorem k_27 : Cond.selects "SieveDesk$Grammar" y_G_lacks y_G_lacks ∈ TT := mem_t0 (i := 27) rfl rfl
theorem k_28 : Cond.selects "SieveDesk$Grammar" y_G_takeTest y_G_takeTest ∈ TT := mem_t0 (i := 28) rfl rfl
theorem k_29 : Cond.selects "SieveDesk$Grammar" y_G_takeMoreTests y_G_takeMoreTests ∈ TT := mem_t0 (i := 29) rfl rfl
theorem k_30 : Cond.selects "SieveDesk$Grammar" y_G_takeTags y_G_takeTags ∈ TT := mem_t0 (i := 30) rfl rfl
theorem k_31 : Cond.selects "SieveDesk$Grammar" y_G_takeKind y_G_takeKind ∈ TT := mem_t0 (i := 31) rfl rfl
theorem k_32 : Cond.selects "SieveDesk$Grammar" y_G_takeString y_G_takeString ∈ TT := mem_t0 (i := 32) rfl rfl
theorem k_33 : Cond.selects "SieveDesk$Grammar" y_G_takeStrings y_G_takeStrings ∈ TT := mem_t0 (i := 33) rfl rfl
theorem k_34 : Cond.selects "SieveDesk$Grammar" y_G_takeSign y_G_takeSign ∈ TT := mem_t0 (i := 34) rfl rfl
theorem k_35 : Cond.selects "SieveDesk$Grammar" y_G_standsAt y_G_standsAt ∈ TT := mem_t0 (i := 35) rfl rfl
theorem k_36 : Cond.selects "SieveDesk" y_S_lineOf y_S_lineOf ∈ TT := mem_t0 (i := 36) rfl rfl
theorem k_37 : Cond.selects "SieveDeskModel" y_M_next y_M_next ∈ TT := mem_t0 (i := 37) rfl rfl
theorem k_38 : Cond.selects "SieveDeskModel" y_M_skip y_M_skip ∈ TT := mem_t0 (i := 38) rfl rfl
theorem k_39 : Cond.selects "SieveDeskModel" y_M_peek y_M_peek ∈ TT := mem_t0 (i := 39) rfl rfl
theorem k_40 : Cond.selects "SieveDeskModel" y_M_token y_M_token ∈ TT := mem_t0 (i := 40) rfl rfl
theorem k_41 : Cond.selects "SieveDeskModel" y_M_begin y_M_begin ∈ TT := mem_t0 (i := 41) rfl rfl
theorem k_42 : Cond.selects "SieveDeskModel" y_M_wordOf y_M_wordOf ∈ TT := mem_t0 (i := 42) rfl rfl
theorem k_43 : Cond.selects "SieveDeskModel" y_M_add y_M_add ∈ TT := mem_t0 (i := 43) rfl rfl
theorem k_44 : Cond.selects "SieveDeskModel" y_M_like y_M_like ∈ TT := mem_t0 (i := 44) rfl rfl
theorem k_45 : Cond.selects "SieveDeskModel" y_M_which y_M_which ∈ TT := mem_t0 (i := 45) rfl rfl
theorem k_46 : Cond.selects "SieveDeskModel" y_M_lines y_M_lines ∈ TT := mem_t0 (i := 46) rfl rfl
theorem k_47 : Cond.selects "SieveDeskModel" y_M_endAt y_M_endAt ∈ TT := mem_t0 (i := 47) rfl rfl
theorem k_48 : Cond.selects "SieveDeskModel" y_M_digits y_M_digits ∈ TT := mem_t0 (i := 48) rfl rfl
theorem k_49 : Cond.selects "SieveDeskModel" y_M_quoted y_M_quoted ∈ TT := mem_t0 (i := 49) rfl rfl
theorem k_50 : Cond.selects "SieveDeskModel" y_M_fail y_M_fail ∈ TT := mem_t0 (i := 50) rfl rfl
theorem k_51 : Cond.selects "SieveDeskModel" y_M_isWord y_M_isWord ∈ TT := mem_t0 (i := 51) rfl rfl
theorem k_52 : Cond.selects "SieveDeskModel" y_M_is y_M_is ∈ TT := mem_t0 (i := 52) rfl rfl
theorem k_53 : Cond.selects "SieveDeskModel" y_M_list y_M_list ∈ TT := mem_t0 (i := 53) rfl rfl
theorem k_54 : Cond.selects "SieveDeskModel" y_M_isSign y_M_isSign ∈ TT := mem_t0 (i := 54) rfl rfl
theorem k_55 : Cond.selects "SieveDeskModel" y_M_string y_M_string ∈ TT := mem_t0 (i := 55) rfl rfl
theorem k_56 : Cond.selects "SieveDeskModel" y_M_require y_M_require ∈ TT := mem_t0 (i := 56) rfl rfl
theorem k_57 : Cond.selects "SieveDeskModel" y_M_take y_M_take ∈ TT := mem_t0 (i := 57) rfl rfl
theorem k_58 : Cond.selects "SieveDeskModel" y_M_push y_M_push ∈ TT := mem_t0 (i := 58) rfl rfl
theorem k_59 : Cond.selects "SieveDeskModel" y_M_step y_M_step ∈ TT := mem_t0 (i := 59) rfl rfl
theorem k_60 : Cond.selects "SieveDeskModel" y_M_command y_M_command ∈ TT := mem_t0 (i := 60) rfl rfl
theorem k_61 : Cond.selects "SieveDeskModel" y_M_counting y_M_counting ∈ TT := mem_t0 (i := 61) rfl rfl
theorem k_62 : Cond.selects "SieveDeskModel" y_M_needs y_M_needs ∈ TT := mem_t0 (i := 62) rfl rfl
theorem k_63 : Cond.selects "SieveDeskModel" y_M_tags y_M_tags ∈ TT := mem_t0 (i := 63) rfl rfl
theorem k_64 : Cond.selects "SieveDeskModel" y_M_file y_M_file ∈ TT := mem_t0 (i := 64) rfl rfl
theorem k_65 : Cond.selects "SieveDeskModel" y_M_redirect y_M_redirect ∈ TT := mem_t0 (i := 65) rfl rfl
theorem k_66 : Cond.selects "SieveDeskModel" y_M_isDotted y_M_isDotted ∈ TT := mem_t0 (i := 66) rfl rfl
theorem k_67 : Cond.selects "SieveDeskModel" y_M_taken y_M_taken ∈ TT := mem_t0 (i := 67) rfl rfl
theorem k_68 : Cond.selects "SieveDeskModel" y_M_absence y_M_absence ∈ TT := mem_t0 (i := 68) rfl rfl
theorem k_69 : Cond.selects "SieveDeskModel" y_M_number y_M_number ∈ TT := mem_t0 (i := 69) rfl rfl
theorem k_70 : Cond.selects "SieveDeskModel" y_M_test y_M_test ∈ TT := mem_t0 (i := 70) rfl rfl
theorem k_71 : Cond.selects "SieveDeskModel" y_M_how y_M_how ∈ TT := mem_t0 (i := 71) rfl rfl
theorem k_72 : Cond.selects "SieveDeskModel" y_M_one y_M_one ∈ TT := mem_t0 (i := 72) rfl rfl
theorem k_73 : Cond.initialized "SieveDeskLaw" ∈ TT := mem_t1 (i := 0) rfl rfl
theorem k_74 : Cond.initialized "SieveDesk" ∈ TT := mem_t1 (i := 1) rfl rfl
theorem k_75 : Cond.initialized "SieveDesk$Tokens" ∈ TT := mem_t1 (i := 2) rfl rfl
theorem k_76 : Cond.initialized "SieveDesk$Quoted" ∈ TT := mem_t1 (i := 3) rfl rfl
theorem k_77 : Cond.initialized "SieveDesk$Grammar" ∈ TT := mem_t1 (i := 4) rfl rfl
theorem k_78 : Cond.initialized "java/lang/Enum" ∈ TT := mem_t1 (i := 5) rfl rfl
theorem k_79 : Cond.initialized "SieveDesk$Word" ∈ TT := mem_t1 (i := 6) rfl rfl
theorem k_80 : Cond.initialized "SieveDeskModel" ∈ TT := mem_t1 (i := 7) rfl rfl
theorem k_81 : Cond.initialized "java/lang/String" ∈ TT := mem_t1 (i := 8) rfl rfl
theorem k_82 : Cond.initialized "java/lang/StringLatin1" ∈ TT := mem_t1 (i := 9) rfl rfl
theorem k_83 : Cond.initialized "jdk/internal/util/Preconditions" ∈ TT := mem_t1 (i := 10) rfl rfl
theorem k_84 : Cond.initialized "java/lang/StringUTF16" ∈ TT := mem_t1 (i := 11) rfl rfl
theorem k_85 : Cond.initialized "java/lang/Math" ∈ TT := mem_t1 (i := 12) rfl rfl
theorem k_86 : Cond.initialized "java/lang/Character" ∈ TT := mem_t1 (i := 13) rfl rfl
theorem k_87 : Cond.initialized "SieveDesk$Name" ∈ TT := mem_t1 (i := 14) rfl rfl
theorem k_88 : Cond.classLink "SieveDeskLaw" 7 "SieveDesk" ∈ TT := mem_t1 (i := 15) rfl rfl
theorem k_89 : Cond.instantiable "SieveDesk" 5 ∈ TT := mem_t1 (i := 16) rfl rfl
theorem k_90 : Cond.methodLink "SieveDeskLaw" 9 y_S_init ∈ TT := mem_t1 (i := 17) rfl rfl
theorem k_91 : Cond.instanceMethod y_S_init ∈ TT := mem_t1 (i := 18) rfl rfl
theorem k_92 : Cond.code y_S_init b_S_init 1 none ∈ TT := mem_t1 (i := 19) rfl rfl
theorem k_93 : Cond.methodLink "SieveDesk" 3 objectInit ∈ TT := mem_t1 (i := 20) rfl rfl
theorem k_94 : Cond.instanceMethod objectInit ∈ TT := mem_t1 (i := 21) rfl rfl
theorem k_95 : Cond.code objectInit ⟨#[0xb1]⟩ 1 none ∈ TT := mem_t1 (i := 22) rfl rfl
theorem k_96 : Cond.classLink "SieveDesk" 13 "SieveDesk$Tokens" ∈ TT := mem_t1 (i := 23) rfl rfl
theorem k_97 : Cond.instantiable "SieveDesk$Tokens" 9 ∈ TT := mem_t1 (i := 24) rfl rfl
theorem k_98 : Cond.methodLink "SieveDesk" 15 y_T_init ∈ TT := mem_t1 (i := 25) rfl rfl
theorem k_99 : Cond.instanceMethod y_T_init ∈ TT := mem_t1 (i := 26) rfl rfl
theorem k_100 : Cond.code y_T_init b_T_init 2 none ∈ TT := mem_t1 (i := 27) rfl rfl
theorem k_101 : Cond.methodLink "SieveDesk$Tokens" 3 objectInit ∈ TT := mem_t1 (i := 28) rfl rfl
theorem k_102 : Cond.classLink "SieveDesk$Tokens" 22 "SieveDesk$Word" ∈ TT := mem_t1 (i := 29) rfl rfl
theorem k_104 : Cond.classLink "SieveDesk$Tokens" 31 "SieveDesk$Quoted" ∈ TT := mem_t1 (i := 31) rfl rfl
theorem k_105 : Cond.instantiable "SieveDesk$Quoted" 2 ∈ TT := mem_t1 (i := 32) rfl rfl
theorem k_106 : Cond.methodLink "SieveDesk$Tokens" 33 y_Q_init ∈ TT := mem_t1 (i := 33) rfl rfl
theorem k_107 : Cond.instanceMethod y_Q_init ∈ TT := mem_t1 (i := 34) rfl rfl
theorem k_108 : Cond.code y_Q_init b_Q_init 1 none ∈ TT := mem_t1 (i := 35) rfl rfl
theorem k_109 : Cond.methodLink "SieveDesk$Quoted" 3 objectInit ∈ TT := mem_t1 (i := 36) rfl rfl
theorem k_110 : Cond.fieldLink "SieveDesk$Quoted" 9 "SieveDesk$Quoted" "bytes" "[B" ∈ TT := mem_t1 (i := 37) rfl rfl
theorem k_111 : Cond.fieldLink "SieveDesk$Quoted" 15 "SieveDesk$Quoted" "length" "I" ∈ TT := mem_t1 (i := 38) rfl rfl
theorem k_117 : (Cond.arrayClass FieldType.byte) ∈ TT := mem_t1 (i := 44) rfl rfl
theorem k_118 : (Cond.arrayClass FieldType.int) ∈ TT := mem_t1 (i := 45) rfl rfl
theorem k_119 : Cond.fieldLink "SieveDesk$Tokens" 9 "SieveDesk$Tokens" "script" "[B" ∈ TT := mem_t1 (i := 46) rfl rfl
theorem k_120 : Cond.fieldLink "SieveDesk$Tokens" 15 "SieveDesk$Tokens" "kinds" "[I" ∈ TT := mem_t1 (i := 47) rfl rfl
theorem k_122 : Cond.fieldLink "SieveDesk$Tokens" 19 "SieveDesk$Tokens" "starts" "[I" ∈ TT := mem_t1 (i := 49) rfl rfl
theorem k_124 : Cond.fieldLink "SieveDesk$Tokens" 24 "SieveDesk$Tokens" "words" "[LSieveDesk$Word;" ∈ TT := mem_t1 (i := 51) rfl rfl
theorem k_126 : Cond.fieldLink "SieveDesk$Tokens" 28 "SieveDesk$Tokens" "says" "[I" ∈ TT := mem_t1 (i := 53) rfl rfl
theorem k_128 : Cond.fieldLink "SieveDesk$Tokens" 34 "SieveDesk$Tokens" "quoted" "LSieveDesk$Quoted;" ∈ TT := mem_t1 (i := 55) rfl rfl
theorem k_129 : Cond.fieldLink "SieveDesk$Tokens" 38 "SieveDesk$Tokens" "many" "I" ∈ TT := mem_t1 (i := 56) rfl rfl
theorem k_131 : Cond.fieldLink "SieveDesk$Tokens" 42 "SieveDesk$Tokens" "length" "I" ∈ TT := mem_t1 (i := 58) rfl rfl
theorem k_132 : Cond.fieldLink "SieveDesk$Tokens" 45 "SieveDesk$Tokens" "at" "I" ∈ TT := mem_t1 (i := 59) rfl rfl
theorem k_152 : Cond.classLink "SieveDesk" 22 "SieveDesk$Grammar" ∈ TT := mem_t1 (i := 79) rfl rfl
theorem k_153 : Cond.instantiable "SieveDesk$Grammar" 14 ∈ TT := mem_t1 (i := 80) rfl rfl
theorem k_154 : Cond.methodLink "SieveDesk" 24 y_G_init ∈ TT := mem_t1 (i := 81) rfl rfl
theorem k_155 : Cond.instanceMethod y_G_init ∈ TT := mem_t1 (i := 82) rfl rfl
theorem k_156 : Cond.code y_G_init b_G_init 2 none ∈ TT := mem_t1 (i := 83) rfl rfl
theorem k_157 : Cond.methodLink "SieveDesk$Grammar" 3 objectInit ∈ TT := mem_t1 (i := 84) rfl rfl
theorem k_158 : Cond.fieldLink "SieveDesk$Grammar" 19 "SieveDesk$Word" "NONE" "LSieveDesk$Word;" ∈ TT := mem_t1 (i := 85) rfl rfl
theorem k_160 : Cond.fieldLink "SieveDesk$Grammar" 9 "SieveDesk$Grammar" "tokens" "LSieveDesk$Tokens;" ∈ TT := mem_t1 (i := 87) rfl rfl
theorem k_161 : Cond.fieldLink "SieveDesk$Grammar" 15 "SieveDesk$Grammar" "due" "[C" ∈ TT := mem_t1 (i := 88) rfl rfl
theorem k_162 : Cond.fieldLink "SieveDesk$Grammar" 50 "SieveDesk$Grammar" "manyDue" "I" ∈ TT := mem_t1 (i := 89) rfl rfl
theorem k_163 : Cond.fieldLink "SieveDesk$Grammar" 53 "SieveDesk$Grammar" "at" "I" ∈ TT := mem_t1 (i := 90) rfl rfl
theorem k_164 : Cond.fieldLink "SieveDesk$Grammar" 81 "SieveDesk$Grammar" "kind" "I" ∈ TT := mem_t1 (i := 91) rfl rfl
theorem k_165 : Cond.fieldLink "SieveDesk$Grammar" 25 "SieveDesk$Grammar" "word" "LSieveDesk$Word;" ∈ TT := mem_t1 (i := 92) rfl rfl
theorem k_166 : Cond.fieldLink "SieveDesk$Grammar" 28 "SieveDesk$Grammar" "tag" "LSieveDesk$Word;" ∈ TT := mem_t1 (i := 93) rfl rfl
theorem k_167 : Cond.fieldLink "SieveDesk$Grammar" 91 "SieveDesk$Grammar" "says" "I" ∈ TT := mem_t1 (i := 94) rfl rfl
theorem k_168 : Cond.fieldLink "SieveDesk$Grammar" 31 "SieveDesk$Grammar" "things" "I" ∈ TT := mem_t1 (i := 95) rfl rfl
theorem k_170 : Cond.fieldLink "SieveDesk$Grammar" 35 "SieveDesk$Grammar" "strings" "I" ∈ TT := mem_t1 (i := 97) rfl rfl
theorem k_172 : Cond.fieldLink "SieveDesk$Grammar" 38 "SieveDesk$Grammar" "required" "I" ∈ TT := mem_t1 (i := 99) rfl rfl
theorem k_174 : Cond.fieldLink "SieveDesk$Grammar" 41 "SieveDesk$Grammar" "blocks" "I" ∈ TT := mem_t1 (i := 101) rfl rfl
theorem k_175 : Cond.fieldLink "SieveDesk$Grammar" 44 "SieveDesk$Grammar" "tests" "I" ∈ TT := mem_t1 (i := 102) rfl rfl
theorem k_176 : Cond.fieldLink "SieveDesk$Grammar" 47 "SieveDesk$Grammar" "openGroups" "I" ∈ TT := mem_t1 (i := 103) rfl rfl
theorem k_206 : (Cond.arrayClass FieldType.char) ∈ TT := mem_t1 (i := 133) rfl rfl
theorem k_207 : Cond.fieldLink "SieveDesk" 9 "SieveDesk" "script" "[B" ∈ TT := mem_t1 (i := 134) rfl rfl
theorem k_208 : Cond.fieldLink "SieveDesk" 18 "SieveDesk" "tokens" "LSieveDesk$Tokens;" ∈ TT := mem_t1 (i := 135) rfl rfl
theorem k_209 : Cond.fieldLink "SieveDesk" 27 "SieveDesk" "grammar" "LSieveDesk$Grammar;" ∈ TT := mem_t1 (i := 136) rfl rfl
theorem k_210 : Cond.fieldLink "SieveDesk" 31 "SieveDesk" "length" "I" ∈ TT := mem_t1 (i := 137) rfl rfl
theorem k_211 : Cond.fieldLink "SieveDesk" 35 "SieveDesk" "faultPlace" "I" ∈ TT := mem_t1 (i := 138) rfl rfl
theorem k_223 : Cond.methodLink "SieveDeskLaw" 15 y_S_put ∈ TT := mem_t1 (i := 150) rfl rfl
theorem k_224 : Cond.instanceMethod y_S_put ∈ TT := mem_t1 (i := 151) rfl rfl
theorem k_225 : Cond.selects "SieveDesk" y_S_put y_S_put ∈ TT := mem_t1 (i := 152) rfl rfl
theorem k_226 : Cond.code y_S_put b_S_put 5 (some .boolean) ∈ TT := mem_t1 (i := 153) rfl rfl
theorem k_227 : Cond.methodLink "SieveDeskLaw" 20 y_S_check ∈ TT := mem_t1 (i := 154) rfl rfl
theorem k_228 : Cond.instanceMethod y_S_check ∈ TT := mem_t1 (i := 155) rfl rfl
theorem k_229 : Cond.selects "SieveDesk" y_S_check y_S_check ∈ TT := mem_t1 (i := 156) rfl rfl
theorem k_230 : Cond.code y_S_check b_S_check 3 (some .int) ∈ TT := mem_t1 (i := 157) rfl rfl
theorem k_233 : Cond.instanceMethod y_T_scan ∈ TT := mem_t1 (i := 160) rfl rfl
theorem k_234 : Cond.code y_T_scan b_T_scan 3 none ∈ TT := mem_t1 (i := 161) rfl rfl
theorem k_235 : Cond.methodLink "SieveDesk$Tokens" 48 y_T_skipGap ∈ TT := mem_t1 (i := 162) rfl rfl
theorem k_237 : Cond.instanceMethod y_T_skipGap ∈ TT := mem_t1 (i := 164) rfl rfl
theorem k_238 : Cond.code y_T_skipGap b_T_skipGap 4 none ∈ TT := mem_t1 (i := 165) rfl rfl
theorem k_239 : Cond.methodLink "SieveDesk$Tokens" 63 y_T_byteAt ∈ TT := mem_t1 (i := 166) rfl rfl
theorem k_241 : Cond.instanceMethod y_T_byteAt ∈ TT := mem_t1 (i := 168) rfl rfl
theorem k_242 : Cond.code y_T_byteAt b_T_byteAt 2 (some .int) ∈ TT := mem_t1 (i := 169) rfl rfl
theorem k_243 : Cond.methodLink "SieveDesk$Tokens" 67 y_T_behindLine ∈ TT := mem_t1 (i := 170) rfl rfl
theorem k_245 : Cond.instanceMethod y_T_behindLine ∈ TT := mem_t1 (i := 172) rfl rfl
theorem k_246 : Cond.code y_T_behindLine b_T_behindLine 3 (some .int) ∈ TT := mem_t1 (i := 173) rfl rfl
theorem k_247 : Cond.methodLink "SieveDesk$Tokens" 70 y_T_behindComment ∈ TT := mem_t1 (i := 174) rfl rfl
theorem k_249 : Cond.instanceMethod y_T_behindComment ∈ TT := mem_t1 (i := 176) rfl rfl
theorem k_250 : Cond.code y_T_behindComment b_T_behindComment 3 (some .int) ∈ TT := mem_t1 (i := 177) rfl rfl
theorem k_251 : Cond.fieldLink "SieveDesk$Tokens" 51 "SieveDesk$Word" "NONE" "LSieveDesk$Word;" ∈ TT := mem_t1 (i := 178) rfl rfl
theorem k_252 : Cond.methodLink "SieveDesk$Tokens" 55 y_T_add ∈ TT := mem_t1 (i := 179) rfl rfl
theorem k_254 : Cond.instanceMethod y_T_add ∈ TT := mem_t1 (i := 181) rfl rfl
theorem k_255 : Cond.code y_T_add b_T_add 5 none ∈ TT := mem_t1 (i := 182) rfl rfl
theorem k_256 : Cond.methodLink "SieveDesk$Tokens" 59 y_T_scanToken ∈ TT := mem_t1 (i := 183) rfl rfl
theorem k_258 : Cond.instanceMethod y_T_scanToken ∈ TT := mem_t1 (i := 185) rfl rfl
theorem k_259 : Cond.code y_T_scanToken b_T_scanToken 2 (some .boolean) ∈ TT := mem_t1 (i := 186) rfl rfl
theorem k_261 : Cond.static y_S_startsWord ∈ TT := mem_t1 (i := 188) rfl rfl
theorem k_262 : Cond.code y_S_startsWord b_S_startsWord 1 (some .boolean) ∈ TT := mem_t1 (i := 189) rfl rfl
theorem k_263 : Cond.methodLink "SieveDesk" 63 y_S_isLetter ∈ TT := mem_t1 (i := 190) rfl rfl
theorem k_264 : Cond.static y_S_isLetter ∈ TT := mem_t1 (i := 191) rfl rfl
theorem k_265 : Cond.code y_S_isLetter b_S_isLetter 1 (some .boolean) ∈ TT := mem_t1 (i := 192) rfl rfl
theorem k_266 : Cond.methodLink "SieveDesk$Tokens" 77 y_T_scanWord ∈ TT := mem_t1 (i := 193) rfl rfl
theorem k_268 : Cond.instanceMethod y_T_scanWord ∈ TT := mem_t1 (i := 195) rfl rfl
theorem k_269 : Cond.code y_T_scanWord b_T_scanWord 2 (some .boolean) ∈ TT := mem_t1 (i := 196) rfl rfl
theorem k_270 : Cond.methodLink "SieveDesk$Tokens" 102 y_T_wordEnd ∈ TT := mem_t1 (i := 197) rfl rfl
theorem k_272 : Cond.instanceMethod y_T_wordEnd ∈ TT := mem_t1 (i := 199) rfl rfl
theorem k_273 : Cond.code y_T_wordEnd b_T_wordEnd 3 (some .int) ∈ TT := mem_t1 (i := 200) rfl rfl
theorem k_275 : Cond.static y_S_goesOnWord ∈ TT := mem_t1 (i := 202) rfl rfl
theorem k_276 : Cond.code y_S_goesOnWord b_S_goesOnWord 1 (some .boolean) ∈ TT := mem_t1 (i := 203) rfl rfl
theorem k_277 : Cond.methodLink "SieveDesk" 67 y_S_isDigit ∈ TT := mem_t1 (i := 204) rfl rfl
theorem k_278 : Cond.static y_S_isDigit ∈ TT := mem_t1 (i := 205) rfl rfl
theorem k_279 : Cond.code y_S_isDigit b_S_isDigit 1 (some .boolean) ∈ TT := mem_t1 (i := 206) rfl rfl
theorem k_282 : Cond.static y_S_same ∈ TT := mem_t1 (i := 209) rfl rfl
theorem k_283 : Cond.code y_S_same b_S_same 7 (some .boolean) ∈ TT := mem_t1 (i := 210) rfl rfl
theorem k_284 : Cond.methodLink "SieveDesk" 70 y_JS_length ∈ TT := mem_t1 (i := 211) rfl rfl
theorem k_285 : Cond.instanceMethod y_JS_length ∈ TT := mem_t1 (i := 212) rfl rfl
theorem k_286 : Cond.selects "java/lang/String" y_JS_length y_JS_length ∈ TT := mem_t1 (i := 213) rfl rfl
theorem k_287 : Cond.code y_JS_length b_JS_length 1 (some .int) ∈ TT := mem_t1 (i := 214) rfl rfl
theorem k_288 : Cond.methodLink "java/lang/String" 335 y_JS_coder ∈ TT := mem_t1 (i := 215) rfl rfl
theorem k_289 : Cond.instanceMethod y_JS_coder ∈ TT := mem_t1 (i := 216) rfl rfl
theorem k_290 : Cond.selects "java/lang/String" y_JS_coder y_JS_coder ∈ TT := mem_t1 (i := 217) rfl rfl
theorem k_291 : Cond.code y_JS_coder b_JS_coder 1 (some .byte) ∈ TT := mem_t1 (i := 218) rfl rfl
theorem k_292 : Cond.fieldLink "java/lang/String" 38 "java/lang/String" "COMPACT_STRINGS" "Z" ∈ TT := mem_t1 (i := 219) rfl rfl
theorem k_294 : Cond.methodLink "SieveDesk" 74 y_JS_charAt ∈ TT := mem_t1 (i := 221) rfl rfl
theorem k_295 : Cond.instanceMethod y_JS_charAt ∈ TT := mem_t1 (i := 222) rfl rfl
theorem k_296 : Cond.selects "java/lang/String" y_JS_charAt y_JS_charAt ∈ TT := mem_t1 (i := 223) rfl rfl
theorem k_297 : Cond.code y_JS_charAt b_JS_charAt 2 (some .char) ∈ TT := mem_t1 (i := 224) rfl rfl
theorem k_298 : Cond.methodLink "java/lang/String" 492 y_JS_isLatin1 ∈ TT := mem_t1 (i := 225) rfl rfl
theorem k_299 : Cond.instanceMethod y_JS_isLatin1 ∈ TT := mem_t1 (i := 226) rfl rfl
theorem k_300 : Cond.selects "java/lang/String" y_JS_isLatin1 y_JS_isLatin1 ∈ TT := mem_t1 (i := 227) rfl rfl
theorem k_301 : Cond.code y_JS_isLatin1 b_JS_isLatin1 1 (some .boolean) ∈ TT := mem_t1 (i := 228) rfl rfl
theorem k_302 : Cond.methodLink "java/lang/String" 495 y_JL_charAt ∈ TT := mem_t1 (i := 229) rfl rfl
theorem k_303 : Cond.static y_JL_charAt ∈ TT := mem_t1 (i := 230) rfl rfl
theorem k_304 : Cond.code y_JL_charAt b_JL_charAt 2 (some .char) ∈ TT := mem_t1 (i := 231) rfl rfl
theorem k_305 : Cond.methodLink "java/lang/StringLatin1" 9 y_JS_checkIndex ∈ TT := mem_t1 (i := 232) rfl rfl
theorem k_306 : Cond.static y_JS_checkIndex ∈ TT := mem_t1 (i := 233) rfl rfl
theorem k_307 : Cond.code y_JS_checkIndex b_JS_checkIndex 2 none ∈ TT := mem_t1 (i := 234) rfl rfl
theorem k_308 : Cond.fieldLink "java/lang/String" 1053 "jdk/internal/util/Preconditions" "SIOOBE_FORMATTER" "Ljava/util/function/BiFunction;" ∈ TT := mem_t1 (i := 235) rfl rfl
theorem k_310 : Cond.methodLink "java/lang/String" 1059 y_JP_checkIndex ∈ TT := mem_t1 (i := 237) rfl rfl
theorem k_311 : Cond.static y_JP_checkIndex ∈ TT := mem_t1 (i := 238) rfl rfl
theorem k_312 : Cond.code y_JP_checkIndex b_JP_checkIndex 3 (some .int) ∈ TT := mem_t1 (i := 239) rfl rfl
theorem k_313 : Cond.methodLink "java/lang/String" 498 y_JU_charAt ∈ TT := mem_t2 (i := 0) rfl rfl
theorem k_314 : Cond.static y_JU_charAt ∈ TT := mem_t2 (i := 1) rfl rfl
theorem k_315 : Cond.code y_JU_charAt b_JU_charAt 2 (some .char) ∈ TT := mem_t2 (i := 2) rfl rfl
theorem k_316 : Cond.methodLink "java/lang/StringUTF16" 67 y_JU_checkIndex ∈ TT := mem_t2 (i := 3) rfl rfl
theorem k_317 : Cond.static y_JU_checkIndex ∈ TT := mem_t2 (i := 4) rfl rfl
theorem k_318 : Cond.code y_JU_checkIndex b_JU_checkIndex 2 none ∈ TT := mem_t2 (i := 5) rfl rfl
theorem k_319 : Cond.methodLink "java/lang/StringUTF16" 48 y_JU_length ∈ TT := mem_t2 (i := 6) rfl rfl
theorem k_320 : Cond.static y_JU_length ∈ TT := mem_t2 (i := 7) rfl rfl
theorem k_321 : Cond.code y_JU_length b_JU_length 1 (some .int) ∈ TT := mem_t2 (i := 8) rfl rfl
theorem k_322 : Cond.methodLink "java/lang/StringUTF16" 414 y_JS_checkIndex ∈ TT := mem_t2 (i := 9) rfl rfl
theorem k_323 : Cond.methodLink "java/lang/StringUTF16" 71 y_JU_getChar ∈ TT := mem_t2 (i := 10) rfl rfl
theorem k_324 : Cond.static y_JU_getChar ∈ TT := mem_t2 (i := 11) rfl rfl
theorem k_325 : Cond.code y_JU_getChar b_JU_getChar 2 (some .char) ∈ TT := mem_t2 (i := 12) rfl rfl
theorem k_326 : Cond.fieldLink "java/lang/StringUTF16" 44 "java/lang/StringUTF16" "$assertionsDisabled" "Z" ∈ TT := mem_t2 (i := 13) rfl rfl
theorem k_328 : Cond.fieldLink "java/lang/StringUTF16" 59 "java/lang/StringUTF16" "HI_BYTE_SHIFT" "I" ∈ TT := mem_t2 (i := 15) rfl rfl
theorem k_330 : Cond.fieldLink "java/lang/StringUTF16" 63 "java/lang/StringUTF16" "LO_BYTE_SHIFT" "I" ∈ TT := mem_t2 (i := 17) rfl rfl
theorem k_332 : Cond.methodLink "SieveDesk$Tokens" 111 y_T_scanText ∈ TT := mem_t2 (i := 19) rfl rfl
theorem k_334 : Cond.instanceMethod y_T_scanText ∈ TT := mem_t2 (i := 21) rfl rfl
theorem k_335 : Cond.code y_T_scanText b_T_scanText 6 (some .boolean) ∈ TT := mem_t2 (i := 22) rfl rfl
theorem k_336 : Cond.methodLink "SieveDesk$Tokens" 143 y_T_behindLineEnd ∈ TT := mem_t2 (i := 23) rfl rfl
theorem k_338 : Cond.instanceMethod y_T_behindLineEnd ∈ TT := mem_t2 (i := 25) rfl rfl
theorem k_339 : Cond.code y_T_behindLineEnd b_T_behindLineEnd 2 (some .int) ∈ TT := mem_t2 (i := 26) rfl rfl
theorem k_341 : Cond.static y_D_spelled ∈ TT := mem_t2 (i := 28) rfl rfl
theorem k_342 : Cond.code y_D_spelled b_D_spelled 4 (some (.object "SieveDesk$Word")) ∈ TT := mem_t2 (i := 29) rfl rfl
theorem k_343 : Cond.fieldLink "SieveDesk$Word" 171 "SieveDesk$Word" "EACH" "[LSieveDesk$Word;" ∈ TT := mem_t2 (i := 30) rfl rfl
theorem k_346 : Cond.fieldLink "SieveDesk$Word" 5 "SieveDesk$Word" "NONE" "LSieveDesk$Word;" ∈ TT := mem_t2 (i := 33) rfl rfl
theorem k_347 : Cond.methodLink "SieveDesk$Tokens" 80 y_T_scanTag ∈ TT := mem_t2 (i := 34) rfl rfl
theorem k_349 : Cond.instanceMethod y_T_scanTag ∈ TT := mem_t2 (i := 36) rfl rfl
theorem k_350 : Cond.code y_T_scanTag b_T_scanTag 2 (some .boolean) ∈ TT := mem_t2 (i := 37) rfl rfl
theorem k_352 : Cond.methodLink "SieveDesk$Tokens" 86 y_T_scanNumber ∈ TT := mem_t2 (i := 39) rfl rfl
theorem k_354 : Cond.instanceMethod y_T_scanNumber ∈ TT := mem_t2 (i := 41) rfl rfl
theorem k_355 : Cond.code y_T_scanNumber b_T_scanNumber 5 (some .boolean) ∈ TT := mem_t2 (i := 42) rfl rfl
theorem k_356 : Cond.constantLong "SieveDesk$Tokens" 118 10 ∈ TT := mem_t2 (i := 43) rfl rfl
theorem k_357 : Cond.constantLong "SieveDesk$Tokens" 120 48 ∈ TT := mem_t2 (i := 44) rfl rfl
theorem k_358 : Cond.constantLong "SieveDesk$Tokens" 122 2147483648 ∈ TT := mem_t2 (i := 45) rfl rfl
theorem k_359 : Cond.methodLink "SieveDesk$Tokens" 124 y_JM_min1 ∈ TT := mem_t2 (i := 46) rfl rfl
theorem k_360 : Cond.static y_JM_min1 ∈ TT := mem_t2 (i := 47) rfl rfl
theorem k_361 : Cond.code y_JM_min1 b_JM_min1 4 (some .long) ∈ TT := mem_t2 (i := 48) rfl rfl
theorem k_362 : Cond.methodLink "SieveDesk$Tokens" 130 y_T_shiftOf ∈ TT := mem_t2 (i := 49) rfl rfl
theorem k_363 : Cond.static y_T_shiftOf ∈ TT := mem_t2 (i := 50) rfl rfl
theorem k_364 : Cond.code y_T_shiftOf b_T_shiftOf 1 (some .int) ∈ TT := mem_t2 (i := 51) rfl rfl
theorem k_365 : Cond.constantLong "SieveDesk$Tokens" 133 2147483647 ∈ TT := mem_t2 (i := 52) rfl rfl
theorem k_366 : Cond.methodLink "SieveDesk$Tokens" 89 y_T_scanQuoted ∈ TT := mem_t2 (i := 53) rfl rfl
theorem k_368 : Cond.instanceMethod y_T_scanQuoted ∈ TT := mem_t2 (i := 55) rfl rfl
theorem k_369 : Cond.code y_T_scanQuoted b_T_scanQuoted 3 (some .boolean) ∈ TT := mem_t2 (i := 56) rfl rfl
theorem k_372 : Cond.instanceMethod y_Q_empty ∈ TT := mem_t2 (i := 59) rfl rfl
theorem k_373 : Cond.code y_Q_empty b_Q_empty 1 none ∈ TT := mem_t2 (i := 60) rfl rfl
theorem k_376 : Cond.instanceMethod y_Q_says ∈ TT := mem_t2 (i := 63) rfl rfl
theorem k_377 : Cond.code y_Q_says b_Q_says 3 (some .int) ∈ TT := mem_t2 (i := 64) rfl rfl
theorem k_378 : Cond.methodLink "SieveDesk$Quoted" 19 y_Q_isMailbox ∈ TT := mem_t2 (i := 65) rfl rfl
theorem k_380 : Cond.instanceMethod y_Q_isMailbox ∈ TT := mem_t2 (i := 67) rfl rfl
theorem k_381 : Cond.code y_Q_isMailbox b_Q_isMailbox 2 (some .boolean) ∈ TT := mem_t2 (i := 68) rfl rfl
theorem k_382 : Cond.methodLink "SieveDesk$Quoted" 23 y_Q_isAddress ∈ TT := mem_t2 (i := 69) rfl rfl
theorem k_384 : Cond.instanceMethod y_Q_isAddress ∈ TT := mem_t2 (i := 71) rfl rfl
theorem k_385 : Cond.code y_Q_isAddress b_Q_isAddress 2 (some .boolean) ∈ TT := mem_t2 (i := 72) rfl rfl
theorem k_387 : Cond.methodLink "SieveDesk$Quoted" 45 y_Q_isDotted ∈ TT := mem_t2 (i := 74) rfl rfl
theorem k_389 : Cond.instanceMethod y_Q_isDotted ∈ TT := mem_t2 (i := 76) rfl rfl
theorem k_390 : Cond.code y_Q_isDotted b_Q_isDotted 9 (some .boolean) ∈ TT := mem_t2 (i := 77) rfl rfl
theorem k_393 : Cond.methodLink "SieveDesk$Quoted" 58 y_JS_indexOf0 ∈ TT := mem_t2 (i := 80) rfl rfl
theorem k_394 : Cond.instanceMethod y_JS_indexOf0 ∈ TT := mem_t2 (i := 81) rfl rfl
theorem k_395 : Cond.selects "java/lang/String" y_JS_indexOf0 y_JS_indexOf0 ∈ TT := mem_t2 (i := 82) rfl rfl
theorem k_396 : Cond.code y_JS_indexOf0 b_JS_indexOf0 2 (some .int) ∈ TT := mem_t2 (i := 83) rfl rfl
theorem k_397 : Cond.methodLink "java/lang/String" 633 y_JS_indexOf1 ∈ TT := mem_t2 (i := 84) rfl rfl
theorem k_398 : Cond.instanceMethod y_JS_indexOf1 ∈ TT := mem_t2 (i := 85) rfl rfl
theorem k_399 : Cond.selects "java/lang/String" y_JS_indexOf1 y_JS_indexOf1 ∈ TT := mem_t2 (i := 86) rfl rfl
theorem k_400 : Cond.code y_JS_indexOf1 b_JS_indexOf1 3 (some .int) ∈ TT := mem_t2 (i := 87) rfl rfl
theorem k_401 : Cond.methodLink "java/lang/String" 505 y_JS_length ∈ TT := mem_t2 (i := 88) rfl rfl
theorem k_402 : Cond.methodLink "java/lang/String" 637 y_JL_indexOf ∈ TT := mem_t2 (i := 89) rfl rfl
theorem k_403 : Cond.static y_JL_indexOf ∈ TT := mem_t2 (i := 90) rfl rfl
theorem k_404 : Cond.code y_JL_indexOf b_JL_indexOf 4 (some .int) ∈ TT := mem_t2 (i := 91) rfl rfl
theorem k_405 : Cond.methodLink "java/lang/StringLatin1" 88 y_JL_canEncode ∈ TT := mem_t2 (i := 92) rfl rfl
theorem k_406 : Cond.static y_JL_canEncode ∈ TT := mem_t2 (i := 93) rfl rfl
theorem k_407 : Cond.code y_JL_canEncode b_JL_canEncode 1 (some .boolean) ∈ TT := mem_t2 (i := 94) rfl rfl
theorem k_408 : Cond.methodLink "java/lang/StringLatin1" 92 y_JM_max ∈ TT := mem_t2 (i := 95) rfl rfl
theorem k_409 : Cond.static y_JM_max ∈ TT := mem_t2 (i := 96) rfl rfl
theorem k_410 : Cond.code y_JM_max b_JM_max 2 (some .int) ∈ TT := mem_t2 (i := 97) rfl rfl
theorem k_411 : Cond.methodLink "java/lang/StringLatin1" 38 y_JM_min0 ∈ TT := mem_t2 (i := 98) rfl rfl
theorem k_412 : Cond.static y_JM_min0 ∈ TT := mem_t2 (i := 99) rfl rfl
theorem k_413 : Cond.code y_JM_min0 b_JM_min0 2 (some .int) ∈ TT := mem_t2 (i := 100) rfl rfl
theorem k_414 : Cond.methodLink "java/lang/StringLatin1" 95 y_JL_indexOfChar ∈ TT := mem_t2 (i := 101) rfl rfl
theorem k_415 : Cond.static y_JL_indexOfChar ∈ TT := mem_t2 (i := 102) rfl rfl
theorem k_416 : Cond.code y_JL_indexOfChar b_JL_indexOfChar 6 (some .int) ∈ TT := mem_t2 (i := 103) rfl rfl
theorem k_417 : Cond.methodLink "java/lang/String" 640 y_JU_indexOf ∈ TT := mem_t2 (i := 104) rfl rfl
theorem k_418 : Cond.static y_JU_indexOf ∈ TT := mem_t2 (i := 105) rfl rfl
theorem k_419 : Cond.code y_JU_indexOf b_JU_indexOf 4 (some .int) ∈ TT := mem_t2 (i := 106) rfl rfl
theorem k_420 : Cond.methodLink "java/lang/StringUTF16" 224 y_JM_max ∈ TT := mem_t2 (i := 107) rfl rfl
theorem k_421 : Cond.methodLink "java/lang/StringUTF16" 183 y_JM_min0 ∈ TT := mem_t2 (i := 108) rfl rfl
theorem k_422 : Cond.constant "java/lang/StringUTF16" 227 65536 ∈ TT := mem_t2 (i := 109) rfl rfl
theorem k_423 : Cond.methodLink "java/lang/StringUTF16" 228 y_JU_indexOfChar ∈ TT := mem_t2 (i := 110) rfl rfl
theorem k_424 : Cond.static y_JU_indexOfChar ∈ TT := mem_t2 (i := 111) rfl rfl
theorem k_425 : Cond.code y_JU_indexOfChar b_JU_indexOfChar 4 (some .int) ∈ TT := mem_t2 (i := 112) rfl rfl
theorem k_426 : Cond.methodLink "java/lang/StringUTF16" 96 y_JU_checkBoundsBeginEnd ∈ TT := mem_t2 (i := 113) rfl rfl
theorem k_427 : Cond.static y_JU_checkBoundsBeginEnd ∈ TT := mem_t2 (i := 114) rfl rfl
theorem k_428 : Cond.code y_JU_checkBoundsBeginEnd b_JU_checkBoundsBeginEnd 3 none ∈ TT := mem_t2 (i := 115) rfl rfl
theorem k_429 : Cond.methodLink "java/lang/StringUTF16" 241 y_JS_checkBoundsBeginEnd ∈ TT := mem_t2 (i := 116) rfl rfl
theorem k_430 : Cond.static y_JS_checkBoundsBeginEnd ∈ TT := mem_t2 (i := 117) rfl rfl
theorem k_431 : Cond.code y_JS_checkBoundsBeginEnd b_JS_checkBoundsBeginEnd 3 none ∈ TT := mem_t2 (i := 118) rfl rfl
theorem k_432 : Cond.methodLink "java/lang/String" 1062 y_JP_checkFromToIndex ∈ TT := mem_t2 (i := 119) rfl rfl
theorem k_433 : Cond.static y_JP_checkFromToIndex ∈ TT := mem_t2 (i := 120) rfl rfl
theorem k_434 : Cond.code y_JP_checkFromToIndex b_JP_checkFromToIndex 4 (some .int) ∈ TT := mem_t2 (i := 121) rfl rfl
theorem k_435 : Cond.methodLink "java/lang/StringUTF16" 244 y_JU_indexOfCharUnsafe ∈ TT := mem_t2 (i := 122) rfl rfl
theorem k_436 : Cond.static y_JU_indexOfCharUnsafe ∈ TT := mem_t2 (i := 123) rfl rfl
theorem k_437 : Cond.code y_JU_indexOfCharUnsafe b_JU_indexOfCharUnsafe 5 (some .int) ∈ TT := mem_t2 (i := 124) rfl rfl
theorem k_438 : Cond.methodLink "java/lang/StringUTF16" 232 y_JU_indexOfSupplementary ∈ TT := mem_t2 (i := 125) rfl rfl
theorem k_439 : Cond.static y_JU_indexOfSupplementary ∈ TT := mem_t2 (i := 126) rfl rfl
theorem k_440 : Cond.code y_JU_indexOfSupplementary b_JU_indexOfSupplementary 7 (some .int) ∈ TT := mem_t2 (i := 127) rfl rfl
theorem k_441 : Cond.methodLink "java/lang/StringUTF16" 164 y_JC_isValidCodePoint ∈ TT := mem_t2 (i := 128) rfl rfl
theorem k_442 : Cond.static y_JC_isValidCodePoint ∈ TT := mem_t2 (i := 129) rfl rfl
theorem k_443 : Cond.code y_JC_isValidCodePoint b_JC_isValidCodePoint 2 (some .boolean) ∈ TT := mem_t2 (i := 130) rfl rfl
theorem k_444 : Cond.methodLink "java/lang/StringUTF16" 157 y_JC_highSurrogate ∈ TT := mem_t2 (i := 131) rfl rfl
theorem k_445 : Cond.static y_JC_highSurrogate ∈ TT := mem_t2 (i := 132) rfl rfl
theorem k_446 : Cond.code y_JC_highSurrogate b_JC_highSurrogate 1 (some .char) ∈ TT := mem_t2 (i := 133) rfl rfl
theorem k_447 : Cond.constant "java/lang/Character" 110 55232 ∈ TT := mem_t2 (i := 134) rfl rfl
theorem k_448 : Cond.methodLink "java/lang/StringUTF16" 161 y_JC_lowSurrogate ∈ TT := mem_t2 (i := 135) rfl rfl
theorem k_449 : Cond.static y_JC_lowSurrogate ∈ TT := mem_t2 (i := 136) rfl rfl
theorem k_450 : Cond.code y_JC_lowSurrogate b_JC_lowSurrogate 1 (some .char) ∈ TT := mem_t2 (i := 137) rfl rfl
theorem k_451 : Cond.constant "java/lang/Character" 76 56320 ∈ TT := mem_t2 (i := 138) rfl rfl
theorem k_458 : Cond.instanceMethod y_Q_add ∈ TT := mem_t2 (i := 145) rfl rfl
theorem k_459 : Cond.code y_Q_add b_Q_add 2 (some .boolean) ∈ TT := mem_t2 (i := 146) rfl rfl
theorem k_461 : Cond.methodLink "SieveDesk$Tokens" 94 y_JS_indexOf0 ∈ TT := mem_t2 (i := 148) rfl rfl
theorem k_464 : Cond.instanceMethod y_G_reads ∈ TT := mem_t2 (i := 151) rfl rfl
theorem k_465 : Cond.code y_G_reads b_G_reads 2 (some .boolean) ∈ TT := mem_t2 (i := 152) rfl rfl
theorem k_466 : Cond.methodLink "SieveDesk$Grammar" 56 y_G_advance ∈ TT := mem_t2 (i := 153) rfl rfl
theorem k_468 : Cond.instanceMethod y_G_advance ∈ TT := mem_t2 (i := 155) rfl rfl
theorem k_469 : Cond.code y_G_advance b_G_advance 2 none ∈ TT := mem_t2 (i := 156) rfl rfl
theorem k_471 : Cond.methodLink "SieveDesk$Grammar" 61 y_G_expect ∈ TT := mem_t2 (i := 158) rfl rfl
theorem k_473 : Cond.instanceMethod y_G_expect ∈ TT := mem_t2 (i := 160) rfl rfl
theorem k_474 : Cond.code y_G_expect b_G_expect 3 none ∈ TT := mem_t2 (i := 161) rfl rfl
theorem k_475 : Cond.methodLink "SieveDesk$Grammar" 93 y_JS_length ∈ TT := mem_t2 (i := 162) rfl rfl
theorem k_476 : Cond.methodLink "SieveDesk$Grammar" 99 y_JS_charAt ∈ TT := mem_t2 (i := 163) rfl rfl
theorem k_477 : Cond.methodLink "SieveDesk$Grammar" 65 y_G_take ∈ TT := mem_t2 (i := 164) rfl rfl
theorem k_479 : Cond.instanceMethod y_G_take ∈ TT := mem_t2 (i := 166) rfl rfl
theorem k_480 : Cond.code y_G_take b_G_take 2 (some .boolean) ∈ TT := mem_t2 (i := 167) rfl rfl
theorem k_481 : Cond.fieldLink "SieveDesk$Grammar" 103 "SieveDesk$Word" "REQUIRE" "LSieveDesk$Word;" ∈ TT := mem_t2 (i := 168) rfl rfl
theorem k_483 : Cond.methodLink "SieveDesk$Grammar" 106 y_G_follow ∈ TT := mem_t2 (i := 170) rfl rfl
theorem k_485 : Cond.instanceMethod y_G_follow ∈ TT := mem_t2 (i := 172) rfl rfl
theorem k_486 : Cond.code y_G_follow b_G_follow 2 (some .boolean) ∈ TT := mem_t2 (i := 173) rfl rfl
theorem k_487 : Cond.methodLink "SieveDesk$Grammar" 110 y_G_takeCommands ∈ TT := mem_t2 (i := 174) rfl rfl
theorem k_489 : Cond.instanceMethod y_G_takeCommands ∈ TT := mem_t2 (i := 176) rfl rfl
theorem k_490 : Cond.code y_G_takeCommands b_G_takeCommands 1 (some .boolean) ∈ TT := mem_t2 (i := 177) rfl rfl
theorem k_491 : Cond.fieldLink "SieveDesk$Grammar" 164 "SieveDesk$Word" "IF" "LSieveDesk$Word;" ∈ TT := mem_t2 (i := 178) rfl rfl
theorem k_494 : Cond.methodLink "SieveDesk$Grammar" 169 y_G_begin ∈ TT := mem_t2 (i := 181) rfl rfl
theorem k_496 : Cond.instanceMethod y_G_begin ∈ TT := mem_t2 (i := 183) rfl rfl
theorem k_497 : Cond.code y_G_begin b_G_begin 1 (some .boolean) ∈ TT := mem_t2 (i := 184) rfl rfl
theorem k_498 : Cond.methodLink "SieveDesk$Grammar" 142 y_G_lacks ∈ TT := mem_t2 (i := 185) rfl rfl
theorem k_500 : Cond.instanceMethod y_G_lacks ∈ TT := mem_t2 (i := 187) rfl rfl
theorem k_501 : Cond.code y_G_lacks b_G_lacks 2 (some .boolean) ∈ TT := mem_t2 (i := 188) rfl rfl
theorem k_502 : Cond.methodLink "SieveDesk$Grammar" 114 y_G_takeTest ∈ TT := mem_t2 (i := 189) rfl rfl
theorem k_504 : Cond.instanceMethod y_G_takeTest ∈ TT := mem_t2 (i := 191) rfl rfl
theorem k_505 : Cond.code y_G_takeTest b_G_takeTest 1 (some .boolean) ∈ TT := mem_t2 (i := 192) rfl rfl
theorem k_507 : Cond.methodLink "SieveDesk$Grammar" 117 y_G_takeMoreTests ∈ TT := mem_t2 (i := 194) rfl rfl
theorem k_509 : Cond.instanceMethod y_G_takeMoreTests ∈ TT := mem_t2 (i := 196) rfl rfl
theorem k_510 : Cond.code y_G_takeMoreTests b_G_takeMoreTests 1 (some .boolean) ∈ TT := mem_t2 (i := 197) rfl rfl
theorem k_512 : Cond.fieldLink "SieveDesk$Grammar" 120 "SieveDesk$Word" "ELSIF" "LSieveDesk$Word;" ∈ TT := mem_t2 (i := 199) rfl rfl
theorem k_514 : Cond.fieldLink "SieveDesk$Grammar" 123 "SieveDesk$Word" "ELSE" "LSieveDesk$Word;" ∈ TT := mem_t2 (i := 201) rfl rfl
theorem k_516 : Cond.methodLink "SieveDesk$Grammar" 126 y_G_takeTags ∈ TT := mem_t2 (i := 203) rfl rfl
theorem k_518 : Cond.instanceMethod y_G_takeTags ∈ TT := mem_t2 (i := 205) rfl rfl
theorem k_519 : Cond.code y_G_takeTags b_G_takeTags 1 (some .boolean) ∈ TT := mem_t2 (i := 206) rfl rfl
theorem k_521 : Cond.fieldLink "SieveDesk$Grammar" 129 "SieveDesk$Word" "OVER" "LSieveDesk$Word;" ∈ TT := mem_t2 (i := 208) rfl rfl
theorem k_523 : Cond.fieldLink "SieveDesk$Grammar" 132 "SieveDesk$Word" "UNDER" "LSieveDesk$Word;" ∈ TT := mem_t2 (i := 210) rfl rfl
theorem k_525 : Cond.methodLink "SieveDesk$Grammar" 135 y_G_takeKind ∈ TT := mem_t2 (i := 212) rfl rfl
theorem k_527 : Cond.instanceMethod y_G_takeKind ∈ TT := mem_t2 (i := 214) rfl rfl
theorem k_528 : Cond.code y_G_takeKind b_G_takeKind 2 (some .boolean) ∈ TT := mem_t2 (i := 215) rfl rfl
theorem k_529 : Cond.methodLink "SieveDesk$Grammar" 139 y_G_takeString ∈ TT := mem_t2 (i := 216) rfl rfl
theorem k_531 : Cond.instanceMethod y_G_takeString ∈ TT := mem_t2 (i := 218) rfl rfl
theorem k_532 : Cond.code y_G_takeString b_G_takeString 2 (some .boolean) ∈ TT := mem_t2 (i := 219) rfl rfl
theorem k_533 : Cond.methodLink "SieveDesk$Grammar" 145 y_G_takeStrings ∈ TT := mem_t2 (i := 220) rfl rfl
theorem k_535 : Cond.instanceMethod y_G_takeStrings ∈ TT := mem_t2 (i := 222) rfl rfl
theorem k_536 : Cond.code y_G_takeStrings b_G_takeStrings 3 (some .boolean) ∈ TT := mem_t2 (i := 223) rfl rfl
theorem k_537 : Cond.methodLink "SieveDesk$Grammar" 148 y_G_takeSign ∈ TT := mem_t2 (i := 224) rfl rfl
theorem k_539 : Cond.instanceMethod y_G_takeSign ∈ TT := mem_t2 (i := 226) rfl rfl
theorem k_540 : Cond.code y_G_takeSign b_G_takeSign 2 (some .boolean) ∈ TT := mem_t2 (i := 227) rfl rfl
theorem k_543 : Cond.instanceMethod y_G_standsAt ∈ TT := mem_t2 (i := 230) rfl rfl
theorem k_544 : Cond.code y_G_standsAt b_G_standsAt 1 (some .int) ∈ TT := mem_t2 (i := 231) rfl rfl
theorem k_545 : Cond.methodLink "SieveDesk" 50 y_S_lineOf ∈ TT := mem_t2 (i := 232) rfl rfl
theorem k_547 : Cond.instanceMethod y_S_lineOf ∈ TT := mem_t2 (i := 234) rfl rfl
theorem k_548 : Cond.code y_S_lineOf b_S_lineOf 4 (some .int) ∈ TT := mem_t2 (i := 235) rfl rfl
theorem k_549 : Cond.methodLink "SieveDeskLaw" 25 y_S_place ∈ TT := mem_t2 (i := 236) rfl rfl
theorem k_550 : Cond.instanceMethod y_S_place ∈ TT := mem_t2 (i := 237) rfl rfl
theorem k_551 : Cond.selects "SieveDesk" y_S_place y_S_place ∈ TT := mem_t2 (i := 238) rfl rfl
theorem k_552 : Cond.code y_S_place b_S_place 1 (some .int) ∈ TT := mem_t2 (i := 239) rfl rfl
theorem k_553 : Cond.methodLink "SieveDeskLaw" 29 y_S_count ∈ TT := mem_t3 (i := 0) rfl rfl
theorem k_554 : Cond.instanceMethod y_S_count ∈ TT := mem_t3 (i := 1) rfl rfl
theorem k_555 : Cond.selects "SieveDesk" y_S_count y_S_count ∈ TT := mem_t3 (i := 2) rfl rfl
theorem k_556 : Cond.code y_S_count b_S_count 2 (some .int) ∈ TT := mem_t3 (i := 3) rfl rfl
theorem k_557 : Cond.classLink "SieveDeskLaw" 10 "SieveDeskModel" ∈ TT := mem_t3 (i := 4) rfl rfl
theorem k_558 : Cond.instantiable "SieveDeskModel" 19 ∈ TT := mem_t3 (i := 5) rfl rfl
theorem k_559 : Cond.methodLink "SieveDeskLaw" 12 y_M_init ∈ TT := mem_t3 (i := 6) rfl rfl
theorem k_560 : Cond.instanceMethod y_M_init ∈ TT := mem_t3 (i := 7) rfl rfl
theorem k_561 : Cond.code y_M_init b_M_init 1 none ∈ TT := mem_t3 (i := 8) rfl rfl
theorem k_562 : Cond.methodLink "SieveDeskModel" 1 objectInit ∈ TT := mem_t3 (i := 9) rfl rfl
theorem k_563 : Cond.constantLong "SieveDeskModel" 7 8243119442065777920 ∈ TT := mem_t3 (i := 10) rfl rfl
theorem k_564 : Cond.constantLong "SieveDeskModel" 9 7594757821606920192 ∈ TT := mem_t3 (i := 11) rfl rfl
theorem k_565 : Cond.constantLong "SieveDeskModel" 11 7308343191835508736 ∈ TT := mem_t3 (i := 12) rfl rfl
theorem k_566 : Cond.constantLong "SieveDeskModel" 13 7308343172944363520 ∈ TT := mem_t3 (i := 13) rfl rfl
theorem k_567 : Cond.constantLong "SieveDeskModel" 15 8319396938487169024 ∈ TT := mem_t3 (i := 14) rfl rfl
theorem k_568 : Cond.constantLong "SieveDeskModel" 17 7235441147021255680 ∈ TT := mem_t3 (i := 15) rfl rfl
theorem k_569 : Cond.constantLong "SieveDeskModel" 19 7738703066416807936 ∈ TT := mem_t3 (i := 16) rfl rfl
theorem k_570 : Cond.constantLong "SieveDeskModel" 21 7379548647239611503 ∈ TT := mem_t3 (i := 17) rfl rfl
theorem k_571 : Cond.constantLong "SieveDeskModel" 23 8243105097025151860 ∈ TT := mem_t3 (i := 18) rfl rfl
theorem k_572 : Cond.constantLong "SieveDeskModel" 25 8243111676664348672 ∈ TT := mem_t3 (i := 19) rfl rfl
theorem k_573 : Cond.constantLong "SieveDeskModel" 27 8315180270263297792 ∈ TT := mem_t3 (i := 20) rfl rfl
theorem k_574 : Cond.constantLong "SieveDeskModel" 29 7017844510417839872 ∈ TT := mem_t3 (i := 21) rfl rfl
theorem k_575 : Cond.constantLong "SieveDeskModel" 31 8243115018466715244 ∈ TT := mem_t3 (i := 22) rfl rfl
theorem k_576 : Cond.constantLong "SieveDeskModel" 33 7018578544280207360 ∈ TT := mem_t3 (i := 23) rfl rfl
theorem k_577 : Cond.constantLong "SieveDeskModel" 35 8530208439432474478 ∈ TT := mem_t3 (i := 24) rfl rfl
theorem k_578 : Cond.constantLong "SieveDeskModel" 37 7522525836418875392 ∈ TT := mem_t3 (i := 25) rfl rfl
theorem k_579 : Cond.constantLong "SieveDeskModel" 39 7017844561841189632 ∈ TT := mem_t3 (i := 26) rfl rfl
theorem k_580 : Cond.constantLong "SieveDeskModel" 41 7308909423251910757 ∈ TT := mem_t3 (i := 27) rfl rfl
theorem k_581 : Cond.constantLong "SieveDeskModel" 43 7521419736427620096 ∈ TT := mem_t3 (i := 28) rfl rfl
theorem k_582 : Cond.constantLong "SieveDeskModel" 45 7311709939631849472 ∈ TT := mem_t3 (i := 29) rfl rfl
theorem k_583 : Cond.constantLong "SieveDeskModel" 47 8316312761126617088 ∈ TT := mem_t3 (i := 30) rfl rfl
theorem k_584 : Cond.constantLong "SieveDeskModel" 49 7020105144872206336 ∈ TT := mem_t3 (i := 31) rfl rfl
theorem k_585 : Cond.constantLong "SieveDeskModel" 51 7020682388476788736 ∈ TT := mem_t3 (i := 32) rfl rfl
theorem k_586 : Cond.constantLong "SieveDeskModel" 53 7957706609935777792 ∈ TT := mem_t3 (i := 33) rfl rfl
theorem k_587 : Cond.constantLong "SieveDeskModel" 55 8390898132396802048 ∈ TT := mem_t3 (i := 34) rfl rfl
theorem k_588 : Cond.constantLong "SieveDeskModel" 57 7377296907481120768 ∈ TT := mem_t3 (i := 35) rfl rfl
theorem k_589 : Cond.constantLong "SieveDeskModel" 59 7380380986292305920 ∈ TT := mem_t3 (i := 36) rfl rfl
theorem k_590 : Cond.constantLong "SieveDeskModel" 61 7165069197163102208 ∈ TT := mem_t3 (i := 37) rfl rfl
theorem k_591 : Cond.constantLong "SieveDeskModel" 63 7233196011361927168 ∈ TT := mem_t3 (i := 38) rfl rfl
theorem k_592 : Cond.constantLong "SieveDeskModel" 65 8319664095743931392 ∈ TT := mem_t3 (i := 39) rfl rfl
theorem k_593 : Cond.constantLong "SieveDeskModel" 67 7017844561841189733 ∈ TT := mem_t3 (i := 40) rfl rfl
theorem k_594 : Cond.constantLong "SieveDeskModel" 69 8286623314361712640 ∈ TT := mem_t3 (i := 41) rfl rfl
theorem k_595 : Cond.constantLong "SieveDeskModel" 71 7521414230279782400 ∈ TT := mem_t3 (i := 42) rfl rfl
theorem k_596 : Cond.constantLong "SieveDeskModel" 73 8031718525762535424 ∈ TT := mem_t3 (i := 43) rfl rfl
theorem k_597 : Cond.constantLong "SieveDeskModel" 75 8461811136742817792 ∈ TT := mem_t3 (i := 44) rfl rfl
theorem k_598 : Cond.constantLong "SieveDeskModel" 77 7598416996304158720 ∈ TT := mem_t3 (i := 45) rfl rfl
theorem k_599 : Cond.constantLong "SieveDeskModel" 79 7165066978299309683 ∈ TT := mem_t3 (i := 46) rfl rfl
theorem k_600 : Cond.constantLong "SieveDeskModel" 81 7881708793177142016 ∈ TT := mem_t3 (i := 47) rfl rfl
theorem k_601 : Cond.constantLong "SieveDeskModel" 83 7165074649422757888 ∈ TT := mem_t3 (i := 48) rfl rfl
theorem k_602 : Cond.constantLong "SieveDeskModel" 85 8530218420677902336 ∈ TT := mem_t3 (i := 49) rfl rfl
theorem k_603 : Cond.constantLong "SieveDeskModel" 87 7165065861608399220 ∈ TT := mem_t3 (i := 50) rfl rfl
theorem k_604 : Cond.constantLong "SieveDeskModel" 89 8030481085555015680 ∈ TT := mem_t3 (i := 51) rfl rfl
theorem k_605 : Cond.constantLong "SieveDeskModel" 91 7020104666419560448 ∈ TT := mem_t3 (i := 52) rfl rfl
theorem k_606 : Cond.constantLong "SieveDeskModel" 93 7813573148593381746 ∈ TT := mem_t3 (i := 53) rfl rfl
theorem k_607 : Cond.constantLong "SieveDeskModel" 95 8358680908399640576 ∈ TT := mem_t3 (i := 54) rfl rfl
theorem k_608 : Cond.constantLong "SieveDeskModel" 97 7237123391355748352 ∈ TT := mem_t3 (i := 55) rfl rfl
theorem k_609 : Cond.constantLong "SieveDeskModel" 99 7454583283205013504 ∈ TT := mem_t3 (i := 56) rfl rfl
theorem k_610 : Cond.constantLong "SieveDeskModel" 101 7450361158554353664 ∈ TT := mem_t3 (i := 57) rfl rfl
theorem k_611 : Cond.constantLong "SieveDeskModel" 103 7814871253394653184 ∈ TT := mem_t3 (i := 58) rfl rfl
theorem k_612 : Cond.constantLong "SieveDeskModel" 105 7810649128743993344 ∈ TT := mem_t3 (i := 59) rfl rfl
theorem k_613 : Cond.constantLong "SieveDeskModel" 107 7309623670199025664 ∈ TT := mem_t3 (i := 60) rfl rfl
theorem k_614 : Cond.constantLong "SieveDeskModel" 109 7954764316819849216 ∈ TT := mem_t3 (i := 61) rfl rfl
theorem k_615 : Cond.constantLong "SieveDeskModel" 111 7582776870553613312 ∈ TT := mem_t3 (i := 62) rfl rfl
theorem k_616 : Cond.constantLong "SieveDeskModel" 113 7582761545825347885 ∈ TT := mem_t3 (i := 63) rfl rfl
theorem k_617 : Cond.constantLong "SieveDeskModel" 115 7161131761959792640 ∈ TT := mem_t3 (i := 64) rfl rfl
theorem k_618 : Cond.constantLong "SieveDeskModel" 117 7959388198925853440 ∈ TT := mem_t3 (i := 65) rfl rfl
theorem k_619 : Cond.constantLong "SieveDeskModel" 119 7596835280987253857 ∈ TT := mem_t3 (i := 66) rfl rfl
theorem k_620 : Cond.constantLong "SieveDeskModel" 121 7454301808228302848 ∈ TT := mem_t3 (i := 67) rfl rfl
theorem k_621 : Cond.constantLong "SieveDeskModel" 123 8243113858792255342 ∈ TT := mem_t3 (i := 68) rfl rfl
theorem k_622 : Cond.constantLong "SieveDeskModel" 125 7019985919163760640 ∈ TT := mem_t3 (i := 69) rfl rfl
theorem k_623 : Cond.constantLong "SieveDeskModel" 127 8030531015546073955 ∈ TT := mem_t3 (i := 70) rfl rfl
theorem k_624 : Cond.constantLong "SieveDeskModel" 129 7595652198976808306 ∈ TT := mem_t3 (i := 71) rfl rfl
theorem k_625 : Cond.constantLong "SieveDeskModel" 131 7593913396676788224 ∈ TT := mem_t3 (i := 72) rfl rfl
theorem k_626 : Cond.constantLong "SieveDeskModel" 133 8387242320658956288 ∈ TT := mem_t3 (i := 73) rfl rfl
theorem k_627 : Cond.fieldLink "SieveDeskModel" 135 "SieveDeskModel" "words" "[J" ∈ TT := mem_t3 (i := 74) rfl rfl
theorem k_628 : Cond.fieldLink "SieveDeskModel" 141 "SieveDeskModel" "wordSizes" "[I" ∈ TT := mem_t3 (i := 75) rfl rfl
theorem k_629 : Cond.fieldLink "SieveDeskModel" 145 "SieveDeskModel" "src" "[I" ∈ TT := mem_t3 (i := 76) rfl rfl
theorem k_630 : Cond.fieldLink "SieveDeskModel" 161 "SieveDeskModel" "srcSize" "I" ∈ TT := mem_t3 (i := 77) rfl rfl
theorem k_631 : Cond.fieldLink "SieveDeskModel" 164 "SieveDeskModel" "srcAt" "I" ∈ TT := mem_t3 (i := 78) rfl rfl
theorem k_632 : Cond.fieldLink "SieveDeskModel" 199 "SieveDeskModel" "sort" "I" ∈ TT := mem_t3 (i := 79) rfl rfl
theorem k_633 : Cond.fieldLink "SieveDeskModel" 192 "SieveDeskModel" "place" "I" ∈ TT := mem_t3 (i := 80) rfl rfl
theorem k_634 : Cond.fieldLink "SieveDeskModel" 174 "SieveDeskModel" "size" "I" ∈ TT := mem_t3 (i := 81) rfl rfl
theorem k_635 : Cond.fieldLink "SieveDeskModel" 148 "SieveDeskModel" "letters" "[J" ∈ TT := mem_t3 (i := 82) rfl rfl
theorem k_636 : Cond.fieldLink "SieveDeskModel" 151 "SieveDeskModel" "text" "[I" ∈ TT := mem_t3 (i := 83) rfl rfl
theorem k_637 : Cond.fieldLink "SieveDeskModel" 154 "SieveDeskModel" "faultAt" "I" ∈ TT := mem_t3 (i := 84) rfl rfl
theorem k_638 : Cond.fieldLink "SieveDeskModel" 336 "SieveDeskModel" "line" "I" ∈ TT := mem_t3 (i := 85) rfl rfl
theorem k_639 : Cond.fieldLink "SieveDeskModel" 261 "SieveDeskModel" "counted" "I" ∈ TT := mem_t3 (i := 86) rfl rfl
theorem k_640 : Cond.fieldLink "SieveDeskModel" 264 "SieveDeskModel" "strings" "I" ∈ TT := mem_t3 (i := 87) rfl rfl
theorem k_641 : Cond.fieldLink "SieveDeskModel" 255 "SieveDeskModel" "required" "I" ∈ TT := mem_t3 (i := 88) rfl rfl
theorem k_642 : Cond.fieldLink "SieveDeskModel" 324 "SieveDeskModel" "blocks" "I" ∈ TT := mem_t3 (i := 89) rfl rfl
theorem k_643 : Cond.fieldLink "SieveDeskModel" 311 "SieveDeskModel" "tests" "I" ∈ TT := mem_t3 (i := 90) rfl rfl
theorem k_644 : Cond.fieldLink "SieveDeskModel" 243 "SieveDeskModel" "open" "I" ∈ TT := mem_t3 (i := 91) rfl rfl
theorem k_645 : Cond.fieldLink "SieveDeskModel" 158 "SieveDeskModel" "row" "[I" ∈ TT := mem_t3 (i := 92) rfl rfl
theorem k_685 : (Cond.arrayClass FieldType.long) ∈ TT := mem_t3 (i := 132) rfl rfl
theorem k_686 : Cond.methodLink "SieveDeskLaw" 19 y_M_put ∈ TT := mem_t3 (i := 133) rfl rfl
theorem k_687 : Cond.instanceMethod y_M_put ∈ TT := mem_t3 (i := 134) rfl rfl
theorem k_688 : Cond.selects "SieveDeskModel" y_M_put y_M_put ∈ TT := mem_t3 (i := 135) rfl rfl
theorem k_689 : Cond.code y_M_put b_M_put 5 (some .boolean) ∈ TT := mem_t3 (i := 136) rfl rfl
theorem k_690 : Cond.methodLink "SieveDeskLaw" 24 y_M_check ∈ TT := mem_t3 (i := 137) rfl rfl
theorem k_691 : Cond.instanceMethod y_M_check ∈ TT := mem_t3 (i := 138) rfl rfl
theorem k_692 : Cond.selects "SieveDeskModel" y_M_check y_M_check ∈ TT := mem_t3 (i := 139) rfl rfl
theorem k_693 : Cond.code y_M_check b_M_check 2 (some .int) ∈ TT := mem_t3 (i := 140) rfl rfl
theorem k_694 : Cond.methodLink "SieveDeskModel" 252 y_M_next ∈ TT := mem_t3 (i := 141) rfl rfl
theorem k_696 : Cond.instanceMethod y_M_next ∈ TT := mem_t3 (i := 143) rfl rfl
theorem k_697 : Cond.code y_M_next b_M_next 2 none ∈ TT := mem_t3 (i := 144) rfl rfl
theorem k_698 : Cond.methodLink "SieveDeskModel" 188 y_M_skip ∈ TT := mem_t3 (i := 145) rfl rfl
theorem k_700 : Cond.instanceMethod y_M_skip ∈ TT := mem_t3 (i := 147) rfl rfl
theorem k_701 : Cond.code y_M_skip b_M_skip 4 (some .boolean) ∈ TT := mem_t3 (i := 148) rfl rfl
theorem k_702 : Cond.methodLink "SieveDeskModel" 185 y_M_peek ∈ TT := mem_t3 (i := 149) rfl rfl
theorem k_704 : Cond.instanceMethod y_M_peek ∈ TT := mem_t3 (i := 151) rfl rfl
theorem k_705 : Cond.code y_M_peek b_M_peek 2 (some .int) ∈ TT := mem_t3 (i := 152) rfl rfl
theorem k_706 : Cond.methodLink "SieveDeskModel" 195 y_M_token ∈ TT := mem_t3 (i := 153) rfl rfl
theorem k_708 : Cond.instanceMethod y_M_token ∈ TT := mem_t3 (i := 155) rfl rfl
theorem k_709 : Cond.code y_M_token b_M_token 3 (some .int) ∈ TT := mem_t3 (i := 156) rfl rfl
theorem k_710 : Cond.methodLink "SieveDeskModel" 205 y_M_begin ∈ TT := mem_t3 (i := 157) rfl rfl
theorem k_712 : Cond.instanceMethod y_M_begin ∈ TT := mem_t3 (i := 159) rfl rfl
theorem k_713 : Cond.code y_M_begin b_M_begin 2 none ∈ TT := mem_t3 (i := 160) rfl rfl
theorem k_714 : Cond.methodLink "SieveDeskModel" 167 y_M_isLetter ∈ TT := mem_t3 (i := 161) rfl rfl
theorem k_715 : Cond.static y_M_isLetter ∈ TT := mem_t3 (i := 162) rfl rfl
theorem k_716 : Cond.code y_M_isLetter b_M_isLetter 1 (some .boolean) ∈ TT := mem_t3 (i := 163) rfl rfl
theorem k_717 : Cond.methodLink "SieveDeskModel" 208 y_M_wordOf ∈ TT := mem_t3 (i := 164) rfl rfl
theorem k_719 : Cond.instanceMethod y_M_wordOf ∈ TT := mem_t3 (i := 166) rfl rfl
theorem k_720 : Cond.code y_M_wordOf b_M_wordOf 1 none ∈ TT := mem_t3 (i := 167) rfl rfl
theorem k_721 : Cond.methodLink "SieveDeskModel" 223 y_M_isWordByte ∈ TT := mem_t3 (i := 168) rfl rfl
theorem k_722 : Cond.static y_M_isWordByte ∈ TT := mem_t3 (i := 169) rfl rfl
theorem k_723 : Cond.code y_M_isWordByte b_M_isWordByte 1 (some .boolean) ∈ TT := mem_t3 (i := 170) rfl rfl
theorem k_724 : Cond.methodLink "SieveDeskModel" 171 y_M_isDigit ∈ TT := mem_t3 (i := 171) rfl rfl
theorem k_725 : Cond.static y_M_isDigit ∈ TT := mem_t3 (i := 172) rfl rfl
theorem k_726 : Cond.code y_M_isDigit b_M_isDigit 1 (some .boolean) ∈ TT := mem_t3 (i := 173) rfl rfl
theorem k_727 : Cond.methodLink "SieveDeskModel" 226 y_M_add ∈ TT := mem_t3 (i := 174) rfl rfl
theorem k_729 : Cond.instanceMethod y_M_add ∈ TT := mem_t3 (i := 176) rfl rfl
theorem k_730 : Cond.code y_M_add b_M_add 2 none ∈ TT := mem_t3 (i := 177) rfl rfl
theorem k_731 : Cond.methodLink "SieveDeskModel" 177 y_M_low ∈ TT := mem_t3 (i := 178) rfl rfl
theorem k_732 : Cond.static y_M_low ∈ TT := mem_t3 (i := 179) rfl rfl
theorem k_733 : Cond.code y_M_low b_M_low 1 (some .int) ∈ TT := mem_t3 (i := 180) rfl rfl
theorem k_734 : Cond.methodLink "SieveDeskModel" 211 y_M_like ∈ TT := mem_t3 (i := 181) rfl rfl
theorem k_736 : Cond.instanceMethod y_M_like ∈ TT := mem_t3 (i := 183) rfl rfl
theorem k_737 : Cond.code y_M_like b_M_like 2 (some .boolean) ∈ TT := mem_t3 (i := 184) rfl rfl
theorem k_738 : Cond.methodLink "SieveDeskModel" 181 y_M_which ∈ TT := mem_t3 (i := 185) rfl rfl
theorem k_740 : Cond.instanceMethod y_M_which ∈ TT := mem_t3 (i := 187) rfl rfl
theorem k_741 : Cond.code y_M_which b_M_which 6 (some .int) ∈ TT := mem_t3 (i := 188) rfl rfl
theorem k_742 : Cond.methodLink "SieveDeskModel" 214 y_M_lines ∈ TT := mem_t3 (i := 189) rfl rfl
theorem k_744 : Cond.instanceMethod y_M_lines ∈ TT := mem_t3 (i := 191) rfl rfl
theorem k_745 : Cond.code y_M_lines b_M_lines 3 (some .int) ∈ TT := mem_t3 (i := 192) rfl rfl
theorem k_746 : Cond.methodLink "SieveDeskModel" 240 y_M_endAt ∈ TT := mem_t3 (i := 193) rfl rfl
theorem k_748 : Cond.instanceMethod y_M_endAt ∈ TT := mem_t3 (i := 195) rfl rfl
theorem k_749 : Cond.code y_M_endAt b_M_endAt 2 (some .int) ∈ TT := mem_t3 (i := 196) rfl rfl
theorem k_750 : Cond.methodLink "SieveDeskModel" 217 y_M_digits ∈ TT := mem_t3 (i := 197) rfl rfl
theorem k_752 : Cond.instanceMethod y_M_digits ∈ TT := mem_t3 (i := 199) rfl rfl
theorem k_753 : Cond.code y_M_digits b_M_digits 4 (some .int) ∈ TT := mem_t3 (i := 200) rfl rfl
theorem k_754 : Cond.constantLong "SieveDeskModel" 230 10000000000 ∈ TT := mem_t3 (i := 201) rfl rfl
theorem k_755 : Cond.constantLong "SieveDeskModel" 232 10 ∈ TT := mem_t3 (i := 202) rfl rfl
theorem k_756 : Cond.constantLong "SieveDeskModel" 234 48 ∈ TT := mem_t3 (i := 203) rfl rfl
theorem k_757 : Cond.constantLong "SieveDeskModel" 236 4294967296 ∈ TT := mem_t3 (i := 204) rfl rfl
theorem k_758 : Cond.constantLong "SieveDeskModel" 238 2147483647 ∈ TT := mem_t3 (i := 205) rfl rfl
theorem k_759 : Cond.methodLink "SieveDeskModel" 220 y_M_quoted ∈ TT := mem_t3 (i := 206) rfl rfl
theorem k_761 : Cond.instanceMethod y_M_quoted ∈ TT := mem_t3 (i := 208) rfl rfl
theorem k_762 : Cond.code y_M_quoted b_M_quoted 1 (some .int) ∈ TT := mem_t3 (i := 209) rfl rfl
theorem k_763 : Cond.methodLink "SieveDeskModel" 202 y_M_fail ∈ TT := mem_t3 (i := 210) rfl rfl
theorem k_765 : Cond.instanceMethod y_M_fail ∈ TT := mem_t3 (i := 212) rfl rfl
theorem k_766 : Cond.code y_M_fail b_M_fail 1 none ∈ TT := mem_t3 (i := 213) rfl rfl
theorem k_767 : Cond.methodLink "SieveDeskModel" 327 y_M_isWord ∈ TT := mem_t3 (i := 214) rfl rfl
theorem k_769 : Cond.instanceMethod y_M_isWord ∈ TT := mem_t3 (i := 216) rfl rfl
theorem k_770 : Cond.code y_M_isWord b_M_isWord 2 (some .boolean) ∈ TT := mem_t3 (i := 217) rfl rfl
theorem k_771 : Cond.methodLink "SieveDeskModel" 246 y_M_is ∈ TT := mem_t3 (i := 218) rfl rfl
theorem k_773 : Cond.instanceMethod y_M_is ∈ TT := mem_t3 (i := 220) rfl rfl
theorem k_774 : Cond.code y_M_is b_M_is 2 (some .boolean) ∈ TT := mem_t3 (i := 221) rfl rfl
theorem k_775 : Cond.methodLink "SieveDeskModel" 294 y_M_list ∈ TT := mem_t3 (i := 222) rfl rfl
theorem k_777 : Cond.instanceMethod y_M_list ∈ TT := mem_t3 (i := 224) rfl rfl
theorem k_778 : Cond.code y_M_list b_M_list 5 none ∈ TT := mem_t3 (i := 225) rfl rfl
theorem k_779 : Cond.methodLink "SieveDeskModel" 249 y_M_isSign ∈ TT := mem_t3 (i := 226) rfl rfl
theorem k_781 : Cond.instanceMethod y_M_isSign ∈ TT := mem_t3 (i := 228) rfl rfl
theorem k_782 : Cond.code y_M_isSign b_M_isSign 2 (some .boolean) ∈ TT := mem_t3 (i := 229) rfl rfl
theorem k_783 : Cond.methodLink "SieveDeskModel" 267 y_M_string ∈ TT := mem_t3 (i := 230) rfl rfl
theorem k_785 : Cond.instanceMethod y_M_string ∈ TT := mem_t3 (i := 232) rfl rfl
theorem k_786 : Cond.code y_M_string b_M_string 1 none ∈ TT := mem_t3 (i := 233) rfl rfl
theorem k_787 : Cond.methodLink "SieveDeskModel" 270 y_M_require ∈ TT := mem_t3 (i := 234) rfl rfl
theorem k_789 : Cond.instanceMethod y_M_require ∈ TT := mem_t3 (i := 236) rfl rfl
theorem k_790 : Cond.code y_M_require b_M_require 2 none ∈ TT := mem_t3 (i := 237) rfl rfl
theorem k_791 : Cond.methodLink "SieveDeskModel" 273 y_M_take ∈ TT := mem_t3 (i := 238) rfl rfl
theorem k_793 : Cond.instanceMethod y_M_take ∈ TT := mem_t4 (i := 0) rfl rfl
theorem k_794 : Cond.code y_M_take b_M_take 2 none ∈ TT := mem_t4 (i := 1) rfl rfl
theorem k_795 : Cond.methodLink "SieveDeskModel" 279 y_M_push ∈ TT := mem_t4 (i := 2) rfl rfl
theorem k_797 : Cond.instanceMethod y_M_push ∈ TT := mem_t4 (i := 4) rfl rfl
theorem k_798 : Cond.code y_M_push b_M_push 2 none ∈ TT := mem_t4 (i := 5) rfl rfl
theorem k_799 : Cond.methodLink "SieveDeskModel" 333 y_M_step ∈ TT := mem_t4 (i := 6) rfl rfl
theorem k_801 : Cond.instanceMethod y_M_step ∈ TT := mem_t4 (i := 8) rfl rfl
theorem k_802 : Cond.code y_M_step b_M_step 2 none ∈ TT := mem_t4 (i := 9) rfl rfl
theorem k_803 : Cond.methodLink "SieveDeskModel" 321 y_M_command ∈ TT := mem_t4 (i := 10) rfl rfl
theorem k_805 : Cond.instanceMethod y_M_command ∈ TT := mem_t4 (i := 12) rfl rfl
theorem k_806 : Cond.code y_M_command b_M_command 2 none ∈ TT := mem_t4 (i := 13) rfl rfl
theorem k_807 : Cond.methodLink "SieveDeskModel" 276 y_M_counting ∈ TT := mem_t4 (i := 14) rfl rfl
theorem k_809 : Cond.instanceMethod y_M_counting ∈ TT := mem_t4 (i := 16) rfl rfl
theorem k_810 : Cond.code y_M_counting b_M_counting 2 none ∈ TT := mem_t4 (i := 17) rfl rfl
theorem k_811 : Cond.methodLink "SieveDeskModel" 258 y_M_needs ∈ TT := mem_t4 (i := 18) rfl rfl
theorem k_813 : Cond.instanceMethod y_M_needs ∈ TT := mem_t4 (i := 20) rfl rfl
theorem k_814 : Cond.code y_M_needs b_M_needs 2 none ∈ TT := mem_t4 (i := 21) rfl rfl
theorem k_815 : Cond.methodLink "SieveDeskModel" 282 y_M_tags ∈ TT := mem_t4 (i := 22) rfl rfl
theorem k_817 : Cond.instanceMethod y_M_tags ∈ TT := mem_t4 (i := 24) rfl rfl
theorem k_818 : Cond.code y_M_tags b_M_tags 6 none ∈ TT := mem_t4 (i := 25) rfl rfl
theorem k_819 : Cond.methodLink "SieveDeskModel" 285 y_M_file ∈ TT := mem_t4 (i := 26) rfl rfl
theorem k_821 : Cond.instanceMethod y_M_file ∈ TT := mem_t4 (i := 28) rfl rfl
theorem k_822 : Cond.code y_M_file b_M_file 3 none ∈ TT := mem_t4 (i := 29) rfl rfl
theorem k_823 : Cond.methodLink "SieveDeskModel" 288 y_M_redirect ∈ TT := mem_t4 (i := 30) rfl rfl
theorem k_825 : Cond.instanceMethod y_M_redirect ∈ TT := mem_t4 (i := 32) rfl rfl
theorem k_826 : Cond.code y_M_redirect b_M_redirect 2 none ∈ TT := mem_t4 (i := 33) rfl rfl
theorem k_827 : Cond.methodLink "SieveDeskModel" 301 y_M_isDotted ∈ TT := mem_t4 (i := 34) rfl rfl
theorem k_829 : Cond.instanceMethod y_M_isDotted ∈ TT := mem_t4 (i := 36) rfl rfl
theorem k_830 : Cond.code y_M_isDotted b_M_isDotted 8 (some .boolean) ∈ TT := mem_t4 (i := 37) rfl rfl
theorem k_831 : Cond.methodLink "SieveDeskModel" 305 y_M_isLocal ∈ TT := mem_t4 (i := 38) rfl rfl
theorem k_832 : Cond.static y_M_isLocal ∈ TT := mem_t4 (i := 39) rfl rfl
theorem k_833 : Cond.code y_M_isLocal b_M_isLocal 2 (some .boolean) ∈ TT := mem_t4 (i := 40) rfl rfl
theorem k_834 : Cond.methodLink "SieveDeskModel" 291 y_M_taken ∈ TT := mem_t4 (i := 41) rfl rfl
theorem k_836 : Cond.instanceMethod y_M_taken ∈ TT := mem_t4 (i := 43) rfl rfl
theorem k_837 : Cond.code y_M_taken b_M_taken 1 none ∈ TT := mem_t4 (i := 44) rfl rfl
theorem k_838 : Cond.methodLink "SieveDeskModel" 298 y_M_absence ∈ TT := mem_t4 (i := 45) rfl rfl
theorem k_840 : Cond.instanceMethod y_M_absence ∈ TT := mem_t4 (i := 47) rfl rfl
theorem k_841 : Cond.code y_M_absence b_M_absence 4 none ∈ TT := mem_t4 (i := 48) rfl rfl
theorem k_842 : Cond.methodLink "SieveDeskModel" 308 y_M_number ∈ TT := mem_t4 (i := 49) rfl rfl
theorem k_844 : Cond.instanceMethod y_M_number ∈ TT := mem_t4 (i := 51) rfl rfl
theorem k_845 : Cond.code y_M_number b_M_number 1 none ∈ TT := mem_t4 (i := 52) rfl rfl
theorem k_846 : Cond.methodLink "SieveDeskModel" 330 y_M_test ∈ TT := mem_t4 (i := 53) rfl rfl
theorem k_848 : Cond.instanceMethod y_M_test ∈ TT := mem_t4 (i := 55) rfl rfl
theorem k_849 : Cond.code y_M_test b_M_test 2 none ∈ TT := mem_t4 (i := 56) rfl rfl
theorem k_850 : Cond.methodLink "SieveDeskModel" 314 y_M_how ∈ TT := mem_t4 (i := 57) rfl rfl
theorem k_852 : Cond.instanceMethod y_M_how ∈ TT := mem_t4 (i := 59) rfl rfl
theorem k_853 : Cond.code y_M_how b_M_how 5 none ∈ TT := mem_t4 (i := 60) rfl rfl
theorem k_854 : Cond.methodLink "SieveDeskModel" 317 y_M_one ∈ TT := mem_t4 (i := 61) rfl rfl
theorem k_856 : Cond.instanceMethod y_M_one ∈ TT := mem_t4 (i := 63) rfl rfl
theorem k_857 : Cond.code y_M_one b_M_one 4 none ∈ TT := mem_t4 (i := 64) rfl rfl
theorem k_858 : Cond.methodLink "SieveDeskLaw" 28 y_M_place ∈ TT := mem_t4 (i := 65) rfl rfl
theorem k_859 : Cond.instanceMethod y_M_place ∈ TT := mem_t4 (i := 66) rfl rfl
theorem k_860 : Cond.selects "SieveDeskModel" y_M_place y_M_place ∈ TT := mem_t4 (i := 67) rfl rfl
theorem k_861 : Cond.code y_M_place b_M_place 1 (some .int) ∈ TT := mem_t4 (i := 68) rfl rfl
theorem k_862 : Cond.methodLink "SieveDeskLaw" 33 y_M_count ∈ TT := mem_t4 (i := 69) rfl rfl
theorem k_863 : Cond.instanceMethod y_M_count ∈ TT := mem_t4 (i := 70) rfl rfl
theorem k_864 : Cond.selects "SieveDeskModel" y_M_count y_M_count ∈ TT := mem_t4 (i := 71) rfl rfl
theorem k_865 : Cond.code y_M_count b_M_count 2 (some .int) ∈ TT := mem_t4 (i := 72) rfl rfl
theorem k_866 : Cond.constantLong "SieveDeskLaw" 13 4294967295 ∈ TT := mem_t4 (i := 73) rfl rfl
theorem k_867 : Cond.fieldLink "java/lang/String" 9 "java/lang/String" "value" "[B" ∈ TT := mem_t4 (i := 74) rfl rfl
theorem k_868 : Cond.fieldLink "java/lang/String" 15 "java/lang/String" "coder" "B" ∈ TT := mem_t4 (i := 75) rfl rfl
theorem k_869 : Cond.fieldLink "SieveDesk$Word" 154 "SieveDesk$Word" "spelling" "Ljava/lang/String;" ∈ TT := mem_t4 (i := 76) rfl rfl
theorem n_121 : Cond.fieldLinkNest "SieveDesk$Grammar" 78 "SieveDesk$Tokens" "kinds" "[I" "SieveDesk" ∈ NT := mem_nt (i := 121) (by decide +kernel) (by decide +kernel)
theorem n_123 : Cond.fieldLinkNest "SieveDesk$Grammar" 69 "SieveDesk$Tokens" "starts" "[I" "SieveDesk" ∈ NT := mem_nt (i := 123) (by decide +kernel) (by decide +kernel)
theorem n_125 : Cond.fieldLinkNest "SieveDesk$Grammar" 84 "SieveDesk$Tokens" "words" "[LSieveDesk$Word;" "SieveDesk" ∈ NT := mem_nt (i := 125) (by decide +kernel) (by decide +kernel)
theorem n_127 : Cond.fieldLinkNest "SieveDesk$Grammar" 88 "SieveDesk$Tokens" "says" "[I" "SieveDesk" ∈ NT := mem_nt (i := 127) (by decide +kernel) (by decide +kernel)
theorem n_130 : Cond.fieldLinkNest "SieveDesk$Grammar" 75 "SieveDesk$Tokens" "many" "I" "SieveDesk" ∈ NT := mem_nt (i := 130) (by decide +kernel) (by decide +kernel)
theorem n_169 : Cond.fieldLinkNest "SieveDesk" 54 "SieveDesk$Grammar" "things" "I" "SieveDesk" ∈ NT := mem_nt (i := 169) (by decide +kernel) (by decide +kernel)
theorem n_171 : Cond.fieldLinkNest "SieveDesk" 57 "SieveDesk$Grammar" "strings" "I" "SieveDesk" ∈ NT := mem_nt (i := 171) (by decide +kernel) (by decide +kernel)
theorem n_173 : Cond.fieldLinkNest "SieveDesk" 60 "SieveDesk$Grammar" "required" "I" "SieveDesk" ∈ NT := mem_nt (i := 173) (by decide +kernel) (by decide +kernel)
theorem n_231 : Cond.methodLinkNest "SieveDesk" 38 y_T_scan "SieveDesk" ∈ NT := mem_nt (i := 231) (by decide +kernel) (by decide +kernel)
theorem n_260 : Cond.methodLinkNest "SieveDesk$Tokens" 73 y_S_startsWord "SieveDesk" ∈ NT := mem_nt (i := 260) (by decide +kernel) (by decide +kernel)
theorem n_274 : Cond.methodLinkNest "SieveDesk$Tokens" 99 y_S_goesOnWord "SieveDesk" ∈ NT := mem_nt (i := 274) (by decide +kernel) (by decide +kernel)
theorem n_281 : Cond.methodLinkNest "SieveDesk$Tokens" 107 y_S_same "SieveDesk" ∈ NT := mem_nt (i := 281) (by decide +kernel) (by decide +kernel)
theorem n_340 : Cond.methodLinkNest "SieveDesk$Tokens" 114 y_D_spelled "SieveDesk" ∈ NT := mem_nt (i := 340) (by decide +kernel) (by decide +kernel)
theorem n_345 : Cond.methodLinkNest "SieveDesk$Word" 174 y_S_same "SieveDesk" ∈ NT := mem_nt (i := 345) (by decide +kernel) (by decide +kernel)
theorem n_351 : Cond.methodLinkNest "SieveDesk$Tokens" 83 y_S_isDigit "SieveDesk" ∈ NT := mem_nt (i := 351) (by decide +kernel) (by decide +kernel)
theorem n_370 : Cond.methodLinkNest "SieveDesk$Tokens" 135 y_Q_empty "SieveDesk" ∈ NT := mem_nt (i := 370) (by decide +kernel) (by decide +kernel)
theorem n_374 : Cond.methodLinkNest "SieveDesk$Tokens" 138 y_Q_says "SieveDesk" ∈ NT := mem_nt (i := 374) (by decide +kernel) (by decide +kernel)
theorem n_391 : Cond.methodLinkNest "SieveDesk$Quoted" 51 y_S_isLetter "SieveDesk" ∈ NT := mem_nt (i := 391) (by decide +kernel) (by decide +kernel)
theorem n_392 : Cond.methodLinkNest "SieveDesk$Quoted" 55 y_S_isDigit "SieveDesk" ∈ NT := mem_nt (i := 392) (by decide +kernel) (by decide +kernel)
theorem n_453 : Cond.fieldLinkNest "SieveDesk$Quoted" 26 "SieveDesk$Name" "EACH" "[LSieveDesk$Name;" "SieveDesk" ∈ NT := mem_nt (i := 453) (by decide +kernel) (by decide +kernel)
theorem n_455 : Cond.methodLinkNest "SieveDesk$Quoted" 36 y_S_same "SieveDesk" ∈ NT := mem_nt (i := 455) (by decide +kernel) (by decide +kernel)
theorem n_456 : Cond.methodLinkNest "SieveDesk$Tokens" 141 y_Q_add "SieveDesk" ∈ NT := mem_nt (i := 456) (by decide +kernel) (by decide +kernel)
theorem n_462 : Cond.methodLinkNest "SieveDesk" 42 y_G_reads "SieveDesk" ∈ NT := mem_nt (i := 462) (by decide +kernel) (by decide +kernel)
theorem n_541 : Cond.methodLinkNest "SieveDesk" 46 y_G_standsAt "SieveDesk" ∈ NT := mem_nt (i := 541) (by decide +kernel) (by decide +kernel)
theorem n_870 : Cond.fieldLinkNest "SieveDesk$Quoted" 32 "SieveDesk$Name" "spelling" "Ljava/lang/String;" "SieveDesk" ∈ NT := mem_nt (i := 870) (by decide +kernel) (by decide +kernel)
theorem n_871 : Cond.fieldLinkNest "SieveDesk$Quoted" 40 "SieveDesk$Name" "says" "I" "SieveDesk" ∈ NT := mem_nt (i := 871) (by decide +kernel) (by decide +kernel)
theorem n_872 : Cond.fieldLinkNest "SieveDesk$Grammar" 151 "SieveDesk$Word" "production" "Ljava/lang/String;" "SieveDesk" ∈ NT := mem_nt (i := 872) (by decide +kernel) (by decide +kernel)
theorem n_873 : Cond.fieldLinkNest "SieveDesk$Grammar" 161 "SieveDesk$Word" "role" "I" "SieveDesk" ∈ NT := mem_nt (i := 873) (by decide +kernel) (by decide +kernel)
theorem n_874 : Cond.fieldLinkNest "SieveDesk$Grammar" 155 "SieveDesk$Word" "needs" "I" "SieveDesk" ∈ NT := mem_nt (i := 874) (by decide +kernel) (by decide +kernel)
theorem n_875 : Cond.fieldLinkNest "SieveDesk$Grammar" 158 "SieveDesk$Word" "groups" "I" "SieveDesk" ∈ NT := mem_nt (i := 875) (by decide +kernel) (by decide +kernel)
end
section
theorem d_M_init_0 : decode b_M_init 0 = .ok (.aload_n 0, 1) := by decide +kernel
theorem d_M_init_1 : decode b_M_init 1 = .ok (.invokespecial 1, 3) := by decide +kernel
theorem d_M_init_4 : decode b_M_init 4 = .ok (.aload_n 0, 1) := by decide +kernel
theorem d_M_init_5 : decode b_M_init 5 = .ok (.sipush 220, 3) := by decide +kernel
theorem d_M_init_8 : decode b_M_init 8 = .ok (.newarray .long, 2) := by decide +kernel
theorem d_M_init_10 : decode b_M_init 10 = .ok (.dup, 1) := by decide +kernel
theorem d_M_init_11 : decode b_M_init 11 = .ok (.iconst 0, 1) := by decide +kernel
theorem d_M_init_12 : decode b_M_init 12 = .ok (.ldc2_w 7, 3) := by decide +kernel
theorem d_M_init_15 : decode b_M_init 15 = .ok (.lastore, 1) := by decide +kernel
theorem d_M_init_16 : decode b_M_init 16 = .ok (.dup, 1) := by decide +kernel
theorem d_M_init_17 : decode b_M_init 17 = .ok (.iconst 1, 1) := by decide +kernel
theorem d_M_init_18 : decode b_M_init 18 = .ok (.lconst 0, 1) := by decide +kernel
theorem d_M_init_19 : decode b_M_init 19 = .ok (.lastore, 1) := by decide +kernel
theorem d_M_init_20 : decode b_M_init 20 = .ok (.dup, 1) := by decide +kernel
theorem d_M_init_21 : decode b_M_init 21 = .ok (.iconst 2, 1) := by decide +kernel
theorem d_M_init_22 : decode b_M_init 22 = .ok (.lconst 0, 1) := by decide +kernel
theorem d_M_init_23 : decode b_M_init 23 = .ok (.lastore, 1) := by decide +kernel
theorem d_M_init_24 : decode b_M_init 24 = .ok (.dup, 1) := by decide +kernel
theorem d_M_init_25 : decode b_M_init 25 = .ok (.iconst 3, 1) := by decide +kernel
theorem d_M_init_26 : decode b_M_init 26 = .ok (.lconst 0, 1) := by decide +kernel
theorem d_M_init_27 : decode b_M_init 27 = .ok (.lastore, 1) := by decide +kernel
theorem d_M_init_28 : decode b_M_init 28 = .ok (.dup, 1) := by decide +kernel
theorem d_M_init_29 : decode b_M_init 29 = .ok (.iconst 4, 1) := by decide +kernel
theorem d_M_init_30 : decode b_M_init 30 = .ok (.ldc2_w 9, 3) := by decide +kernel
theorem d_M_init_33 : decode b_M_init 33 = .ok (.lastore, 1) := by decide +kernel
theorem d_M_init_34 : decode b_M_init 34 = .ok (.dup, 1) := by decide +kernel
theorem d_M_init_35 : decode b_M_init 35 = .ok (.iconst 5, 1) := by decide +kernel
theorem d_M_init_36 : decode b_M_init 36 = .ok (.lconst 0, 1) := by decide +kernel
theorem d_M_init_37 : decode b_M_init 37 = .ok (.lastore, 1) := by decide +kernel
theorem d_M_init_38 : decode b_M_init 38 = .ok (.dup, 1) := by decide +kernel
theorem d_M_init_39 : decode b_M_init 39 = .ok (.bipush 6, 2) := by decide +kernel
theorem d_M_init_41 : decode b_M_init 41 = .ok (.lconst 0, 1) := by decide +kernel
theorem d_M_init_42 : decode b_M_init 42 = .ok (.lastore, 1) := by decide +kernel
theorem d_M_init_43 : decode b_M_init 43 = .ok (.dup, 1) := by decide +kernel
theorem d_M_init_44 : decode b_M_init 44 = .ok (.bipush 7, 2) := by decide +kernel
theorem d_M_init_46 : decode b_M_init 46 = .ok (.lconst 0, 1) := by decide +kernel
theorem d_M_init_47 : decode b_M_init 47 = .ok (.lastore, 1) := by decide +kernel
theorem d_M_init_48 : decode b_M_init 48 = .ok (.dup, 1) := by decide +kernel
theorem d_M_init_49 : decode b_M_init 49 = .ok (.bipush 8, 2) := by decide +kernel
theorem d_M_init_51 : decode b_M_init 51 = .ok (.ldc2_w 11, 3) := by decide +kernel
theorem d_M_init_54 : decode b_M_init 54 = .ok (.lastore, 1) := by decide +kernel
theorem d_M_init_55 : decode b_M_init 55 = .ok (.dup, 1) := by decide +kernel
theorem d_M_init_56 : decode b_M_init 56 = .ok (.bipush 9, 2) := by decide +kernel
theorem d_M_init_58 : decode b_M_init 58 = .ok (.lconst 0, 1) := by decide +kernel
theorem d_M_init_59 : decode b_M_init 59 = .ok (.lastore, 1) := by decide +kernel
theorem d_M_init_60 : decode b_M_init 60 = .ok (.dup, 1) := by decide +kernel
theorem d_M_init_61 : decode b_M_init 61 = .ok (.bipush 10, 2) := by decide +kernel
theorem d_M_init_63 : decode b_M_init 63 = .ok (.lconst 0, 1) := by decide +kernel
theorem d_M_init_64 : decode b_M_init 64 = .ok (.lastore, 1) := by decide +kernel
theorem d_M_init_65 : decode b_M_init 65 = .ok (.dup, 1) := by decide +kernel
theorem d_M_init_66 : decode b_M_init 66 = .ok (.bipush 11, 2) := by decide +kernel
theorem d_M_init_68 : decode b_M_init 68 = .ok (.lconst 0, 1) := by decide +kernel
theorem d_M_init_69 : decode b_M_init 69 = .ok (.lastore, 1) := by decide +kernel
theorem d_M_init_70 : decode b_M_init 70 = .ok (.dup, 1) := by decide +kernel
theorem d_M_init_71 : decode b_M_init 71 = .ok (.bipush 12, 2) := by decide +kernel
theorem d_M_init_73 : decode b_M_init 73 = .ok (.ldc2_w 13, 3) := by decide +kernel
theorem d_M_init_76 : decode b_M_init 76 = .ok (.lastore, 1) := by decide +kernel
theorem d_M_init_77 : decode b_M_init 77 = .ok (.dup, 1) := by decide +kernel
theorem d_M_init_78 : decode b_M_init 78 = .ok (.bipush 13, 2) := by decide +kernel
theorem d_M_init_80 : decode b_M_init 80 = .ok (.lconst 0, 1) := by decide +kernel
theorem d_M_init_81 : decode b_M_init 81 = .ok (.lastore, 1) := by decide +kernel
theorem d_M_init_82 : decode b_M_init 82 = .ok (.dup, 1) := by decide +kernel
theorem d_M_init_83 : decode b_M_init 83 = .ok (.bipush 14, 2) := by decide +kernel
theorem d_M_init_85 : decode b_M_init 85 = .ok (.lconst 0, 1) := by decide +kernel
theorem d_M_init_86 : decode b_M_init 86 = .ok (.lastore, 1) := by decide +kernel
theorem d_M_init_87 : decode b_M_init 87 = .ok (.dup, 1) := by decide +kernel
theorem d_M_init_88 : decode b_M_init 88 = .ok (.bipush 15, 2) := by decide +kernel
theorem d_M_init_90 : decode b_M_init 90 = .ok (.lconst 0, 1) := by decide +kernel
theorem d_M_init_91 : decode b_M_init 91 = .ok (.lastore, 1) := by decide +kernel
theorem d_M_init_92 : decode b_M_init 92 = .ok (.dup, 1) := by decide +kernel
theorem d_M_init_93 : decode b_M_init 93 = .ok (.bipush 16, 2) := by decide +kernel
theorem d_M_init_95 : decode b_M_init 95 = .ok (.ldc2_w 15, 3) := by decide +kernel
theorem d_M_init_98 : decode b_M_init 98 = .ok (.lastore, 1) := by decide +kernel
theorem d_M_init_99 : decode b_M_init 99 = .ok (.dup, 1) := by decide +kernel
theorem d_M_init_100 : decode b_M_init 100 = .ok (.bipush 17, 2) := by decide +kernel
theorem d_M_init_102 : decode b_M_init 102 = .ok (.lconst 0, 1) := by decide +kernel
theorem d_M_init_103 : decode b_M_init 103 = .ok (.lastore, 1) := by decide +kernel
theorem d_M_init_104 : decode b_M_init 104 = .ok (.dup, 1) := by decide +kernel
theorem d_M_init_105 : decode b_M_init 105 = .ok (.bipush 18, 2) := by decide +kernel
theorem d_M_init_107 : decode b_M_init 107 = .ok (.lconst 0, 1) := by decide +kernel
theorem d_M_init_108 : decode b_M_init 108 = .ok (.lastore, 1) := by decide +kernel
theorem d_M_init_109 : decode b_M_init 109 = .ok (.dup, 1) := by decide +kernel
theorem d_M_init_110 : decode b_M_init 110 = .ok (.bipush 19, 2) := by decide +kernel
theorem d_M_init_112 : decode b_M_init 112 = .ok (.lconst 0, 1) := by decide +kernel
theorem d_M_init_113 : decode b_M_init 113 = .ok (.lastore, 1) := by decide +kernel
theorem d_M_init_114 : decode b_M_init 114 = .ok (.dup, 1) := by decide +kernel
theorem d_M_init_115 : decode b_M_init 115 = .ok (.bipush 20, 2) := by decide +kernel
theorem d_M_init_117 : decode b_M_init 117 = .ok (.ldc2_w 17, 3) := by decide +kernel
theorem d_M_init_120 : decode b_M_init 120 = .ok (.lastore, 1) := by decide +kernel
theorem d_M_init_121 : decode b_M_init 121 = .ok (.dup, 1) := by decide +kernel
theorem d_M_init_122 : decode b_M_init 122 = .ok (.bipush 21, 2) := by decide +kernel
theorem d_M_init_124 : decode b_M_init 124 = .ok (.lconst 0, 1) := by decide +kernel
theorem d_M_init_125 : decode b_M_init 125 = .ok (.lastore, 1) := by decide +kernel
theorem d_M_init_126 : decode b_M_init 126 = .ok (.dup, 1) := by decide +kernel
theorem d_M_init_127 : decode b_M_init 127 = .ok (.bipush 22, 2) := by decide +kernel
theorem d_M_init_129 : decode b_M_init 129 = .ok (.lconst 0, 1) := by decide +kernel
theorem d_M_init_130 : decode b_M_init 130 = .ok (.lastore, 1) := by decide +kernel
theorem d_M_init_131 : decode b_M_init 131 = .ok (.dup, 1) := by decide +kernel
theorem d_M_init_132 : decode b_M_init 132 = .ok (.bipush 23, 2) := by decide +kernel
theorem d_M_init_134 : decode b_M_init 134 = .ok (.lconst 0, 1) := by decide +kernel
theorem d_M_init_135 : decode b_M_init 135 = .ok (.lastore, 1) := by decide +kernel
theorem d_M_init_136 : decode b_M_init 136 = .ok (.dup, 1) := by decide +kernel
theorem d_M_init_137 : decode b_M_init 137 = .ok (.bipush 24, 2) := by decide +kernel
theorem d_M_init_139 : decode b_M_init 139 = .ok (.ldc2_w 19, 3) := by decide +kernel
theorem d_M_init_142 : decode b_M_init 142 = .ok (.lastore, 1) := by decide +kernel
theorem d_M_init_143 : decode b_M_init 143 = .ok (.dup, 1) := by decide +kernel
theorem d_M_init_144 : decode b_M_init 144 = .ok (.bipush 25, 2) := by decide +kernel
theorem d_M_init_146 : decode b_M_init 146 = .ok (.lconst 0, 1) := by decide +kernel
theorem d_M_init_147 : decode b_M_init 147 = .ok (.lastore, 1) := by decide +kernel
theorem d_M_init_148 : decode b_M_init 148 = .ok (.dup, 1) := by decide +kernel
theorem d_M_init_149 : decode b_M_init 149 = .ok (.bipush 26, 2) := by decide +kernel
theorem d_M_init_151 : decode b_M_init 151 = .ok (.lconst 0, 1) := by decide +kernel
theorem d_M_init_152 : decode b_M_init 152 = .ok (.lastore, 1) := by decide +kernel
theorem d_M_init_153 : decode b_M_init 153 = .ok (.dup, 1) := by decide +kernel
theorem d_M_init_154 : decode b_M_init 154 = .ok (.bipush 27, 2) := by decide +kernel
theorem d_M_init_156 : decode b_M_init 156 = .ok (.lconst 0, 1) := by decide +kernel
theorem d_M_init_157 : decode b_M_init 157 = .ok (.lastore, 1) := by decide +kernel
theorem d_M_init_158 : decode b_M_init 158 = .ok (.dup, 1) := by decide +kernel
theorem d_M_init_159 : decode b_M_init 159 = .ok (.bipush 28, 2) := by decide +kernel
theorem d_M_init_161 : decode b_M_init 161 = .ok (.ldc2_w 21, 3) := by decide +kernel
theorem d_M_init_164 : decode b_M_init 164 = .ok (.lastore, 1) := by decide +kernel
theorem d_M_init_165 : decode b_M_init 165 = .ok (.dup, 1) := by decide +kernel
theorem d_M_init_166 : decode b_M_init 166 = .ok (.bipush 29, 2) := by decide +kernel
theorem d_M_init_168 : decode b_M_init 168 = .ok (.lconst 0, 1) := by decide +kernel
theorem d_M_init_169 : decode b_M_init 169 = .ok (.lastore, 1) := by decide +kernel
theorem d_M_init_170 : decode b_M_init 170 = .ok (.dup, 1) := by decide +kernel
theorem d_M_init_171 : decode b_M_init 171 = .ok (.bipush 30, 2) := by decide +kernel
theorem d_M_init_173 : decode b_M_init 173 = .ok (.lconst 0, 1) := by decide +kernel
theorem d_M_init_174 : decode b_M_init 174 = .ok (.lastore, 1) := by decide +kernel
theorem d_M_init_175 : decode b_M_init 175 = .ok (.dup, 1) := by decide +kernel
theorem d_M_init_176 : decode b_M_init 176 = .ok (.bipush 31, 2) := by decide +kernel
theorem d_M_init_178 : decode b_M_init 178 = .ok (.lconst 0, 1) := by decide +kernel
theorem d_M_init_179 : decode b_M_init 179 = .ok (.lastore, 1) := by decide +kernel
theorem d_M_init_180 : decode b_M_init 180 = .ok (.dup, 1) := by decide +kernel
theorem d_M_init_181 : decode b_M_init 181 = .ok (.bipush 32, 2) := by decide +kernel
theorem d_M_init_183 : decode b_M_init 183 = .ok (.ldc2_w 23, 3) := by decide +kernel
theorem d_M_init_186 : decode b_M_init 186 = .ok (.lastore, 1) := by decide +kernel
theorem d_M_init_187 : decode b_M_init 187 = .ok (.dup, 1) := by decide +kernel
theorem d_M_init_188 : decode b_M_init 188 = .ok (.bipush 33, 2) := by decide +kernel
theorem d_M_init_190 : decode b_M_init 190 = .ok (.lconst 0, 1) := by decide +kernel
theorem d_M_init_191 : decode b_M_init 191 = .ok (.lastore, 1) := by decide +kernel
theorem d_M_init_192 : decode b_M_init 192 = .ok (.dup, 1) := by decide +kernel
theorem d_M_init_193 : decode b_M_init 193 = .ok (.bipush 34, 2) := by decide +kernel
theorem d_M_init_195 : decode b_M_init 195 = .ok (.lconst 0, 1) := by decide +kernel
theorem d_M_init_196 : decode b_M_init 196 = .ok (.lastore, 1) := by decide +kernel
theorem d_M_init_197 : decode b_M_init 197 = .ok (.dup, 1) := by decide +kernel
theorem d_M_init_198 : decode b_M_init 198 = .ok (.bipush 35, 2) := by decide +kernel
theorem d_M_init_200 : decode b_M_init 200 = .ok (.lconst 0, 1) := by decide +kernel
theorem d_M_init_201 : decode b_M_init 201 = .ok (.lastore, 1) := by decide +kernel
theorem d_M_init_202 : decode b_M_init 202 = .ok (.dup, 1) := by decide +kernel
theorem d_M_init_203 : decode b_M_init 203 = .ok (.bipush 36, 2) := by decide +kernel
theorem d_M_init_205 : decode b_M_init 205 = .ok (.ldc2_w 25, 3) := by decide +kernel
theorem d_M_init_208 : decode b_M_init 208 = .ok (.lastore, 1) := by decide +kernel
theorem d_M_init_209 : decode b_M_init 209 = .ok (.dup, 1) := by decide +kernel
theorem d_M_init_210 : decode b_M_init 210 = .ok (.bipush 37, 2) := by decide +kernel
theorem d_M_init_212 : decode b_M_init 212 = .ok (.lconst 0, 1) := by decide +kernel
theorem d_M_init_213 : decode b_M_init 213 = .ok (.lastore, 1) := by decide +kernel
theorem d_M_init_214 : decode b_M_init 214 = .ok (.dup, 1) := by decide +kernel
theorem d_M_init_215 : decode b_M_init 215 = .ok (.bipush 38, 2) := by decide +kernel
theorem d_M_init_217 : decode b_M_init 217 = .ok (.lconst 0, 1) := by decide +kernel
theorem d_M_init_218 : decode b_M_init 218 = .ok (.lastore, 1) := by decide +kernel
theorem d_M_init_219 : decode b_M_init 219 = .ok (.dup, 1) := by decide +kernel
theorem d_M_init_220 : decode b_M_init 220 = .ok (.bipush 39, 2) := by decide +kernel
theorem d_M_init_222 : decode b_M_init 222 = .ok (.lconst 0, 1) := by decide +kernel
theorem d_M_init_223 : decode b_M_init 223 = .ok (.lastore, 1) := by decide +kernel
theorem d_M_init_224 : decode b_M_init 224 = .ok (.dup, 1) := by decide +kernel
theorem d_M_init_225 : decode b_M_init 225 = .ok (.bipush 40, 2) := by decide +kernel
theorem d_M_init_227 : decode b_M_init 227 = .ok (.ldc2_w 27, 3) := by decide +kernel
theorem d_M_init_230 : decode b_M_init 230 = .ok (.lastore, 1) := by decide +kernel
theorem d_M_init_231 : decode b_M_init 231 = .ok (.dup, 1) := by decide +kernel
theorem d_M_init_232 : decode b_M_init 232 = .ok (.bipush 41, 2) := by decide +kernel
theorem d_M_init_234 : decode b_M_init 234 = .ok (.lconst 0, 1) := by decide +kernel
theorem d_M_init_235 : decode b_M_init 235 = .ok (.lastore, 1) := by decide +kernel
theorem d_M_init_236 : decode b_M_init 236 = .ok (.dup, 1) := by decide +kernel
theorem d_M_init_237 : decode b_M_init 237 = .ok (.bipush 42, 2) := by decide +kernel
theorem d_M_init_239 : decode b_M_init 239 = .ok (.lconst 0, 1) := by decide +kernel
theorem d_M_init_240 : decode b_M_init 240 = .ok (.lastore, 1) := by decide +kernel
theorem d_M_init_241 : decode b_M_init 241 = .ok (.dup, 1) := by decide +kernel
theorem d_M_init_242 : decode b_M_init 242 = .ok (.bipush 43, 2) := by decide +kernel
theorem d_M_init_244 : decode b_M_init 244 = .ok (.lconst 0, 1) := by decide +kernel
theorem d_M_init_245 : decode b_M_init 245 = .ok (.lastore, 1) := by decide +kernel
theorem d_M_init_246 : decode b_M_init 246 = .ok (.dup, 1) := by decide +kernel
theorem d_M_init_247 : decode b_M_init 247 = .ok (.bipush 44, 2) := by decide +kernel
theorem d_M_init_249 : decode b_M_init 249 = .ok (.ldc2_w 29, 3) := by decide +kernel
theorem d_M_init_252 : decode b_M_init 252 = .ok (.lastore, 1) := by decide +kernel
theorem d_M_init_253 : decode b_M_init 253 = .ok (.dup, 1) := by decide +kernel
theorem d_M_init_254 : decode b_M_init 254 = .ok (.bipush 45, 2) := by decide +kernel
theorem d_M_init_256 : decode b_M_init 256 = .ok (.lconst 0, 1) := by decide +kernel
theorem d_M_init_257 : decode b_M_init 257 = .ok (.lastore, 1) := by decide +kernel
theorem d_M_init_258 : decode b_M_init 258 = .ok (.dup, 1) := by decide +kernel
theorem d_M_init_259 : decode b_M_init 259 = .ok (.bipush 46, 2) := by decide +kernel
theorem d_M_init_261 : decode b_M_init 261 = .ok (.lconst 0, 1) := by decide +kernel
theorem d_M_init_262 : decode b_M_init 262 = .ok (.lastore, 1) := by decide +kernel
theorem d_M_init_263 : decode b_M_init 263 = .ok (.dup, 1) := by decide +kernel
theorem d_M_init_264 : decode b_M_init 264 = .ok (.bipush 47, 2) := by decide +kernel
theorem d_M_init_266 : decode b_M_init 266 = .ok (.lconst 0, 1) := by decide +kernel
theorem d_M_init_267 : decode b_M_init 267 = .ok (.lastore, 1) := by decide +kernel
theorem d_M_init_268 : decode b_M_init 268 = .ok (.dup, 1) := by decide +kernel
theorem d_M_init_269 : decode b_M_init 269 = .ok (.bipush 48, 2) := by decide +kernel
theorem d_M_init_271 : decode b_M_init 271 = .ok (.ldc2_w 31, 3) := by decide +kernel
theorem d_M_init_274 : decode b_M_init 274 = .ok (.lastore, 1) := by decide +kernel
theorem d_M_init_275 : decode b_M_init 275 = .ok (.dup, 1) := by decide +kernel
theorem d_M_init_276 : decode b_M_init 276 = .ok (.bipush 49, 2) := by decide +kernel
theorem d_M_init_278 : decode b_M_init 278 = .ok (.ldc2_w 33, 3) := by decide +kernel
theorem d_M_init_281 : decode b_M_init 281 = .ok (.lastore, 1) := by decide +kernel
theorem d_M_init_282 : decode b_M_init 282 = .ok (.dup, 1) := by decide +kernel
theorem d_M_init_283 : decode b_M_init 283 = .ok (.bipush 50, 2) := by decide +kernel
theorem d_M_init_285 : decode b_M_init 285 = .ok (.lconst 0, 1) := by decide +kernel
theorem d_M_init_286 : decode b_M_init 286 = .ok (.lastore, 1) := by decide +kernel
theorem d_M_init_287 : decode b_M_init 287 = .ok (.dup, 1) := by decide +kernel
theorem d_M_init_288 : decode b_M_init 288 = .ok (.bipush 51, 2) := by decide +kernel
theorem d_M_init_290 : decode b_M_init 290 = .ok (.lconst 0, 1) := by decide +kernel
theorem d_M_init_291 : decode b_M_init 291 = .ok (.lastore, 1) := by decide +kernel
theorem d_M_init_292 : decode b_M_init 292 = .ok (.dup, 1) := by decide +kernel
theorem d_M_init_293 : decode b_M_init 293 = .ok (.bipush 52, 2) := by decide +kernel
theorem d_M_init_295 : decode b_M_init 295 = .ok (.ldc2_w 35, 3) := by decide +kernel
theorem d_M_init_298 : decode b_M_init 298 = .ok (.lastore, 1) := by decide +kernel
theorem d_M_init_299 : decode b_M_init 299 = .ok (.dup, 1) := by decide +kernel
theorem d_M_init_300 : decode b_M_init 300 = .ok (.bipush 53, 2) := by decide +kernel
theorem d_M_init_302 : decode b_M_init 302 = .ok (.lconst 0, 1) := by decide +kernel
theorem d_M_init_303 : decode b_M_init 303 = .ok (.lastore, 1) := by decide +kernel
theorem d_M_init_304 : decode b_M_init 304 = .ok (.dup, 1) := by decide +kernel
theorem d_M_init_305 : decode b_M_init 305 = .ok (.bipush 54, 2) := by decide +kernel
theorem d_M_init_307 : decode b_M_init 307 = .ok (.lconst 0, 1) := by decide +kernel
theorem d_M_init_308 : decode b_M_init 308 = .ok (.lastore, 1) := by decide +kernel
theorem d_M_init_309 : decode b_M_init 309 = .ok (.dup, 1) := by decide +kernel
theorem d_M_init_310 : decode b_M_init 310 = .ok (.bipush 55, 2) := by decide +kernel
theorem d_M_init_312 : decode b_M_init 312 = .ok (.lconst 0, 1) := by decide +kernel
theorem d_M_init_313 : decode b_M_init 313 = .ok (.lastore, 1) := by decide +kernel
theorem d_M_init_314 : decode b_M_init 314 = .ok (.dup, 1) := by decide +kernel
theorem d_M_init_315 : decode b_M_init 315 = .ok (.bipush 56, 2) := by decide +kernel
theorem d_M_init_317 : decode b_M_init 317 = .ok (.ldc2_w 37, 3) := by decide +kernel
theorem d_M_init_320 : decode b_M_init 320 = .ok (.lastore, 1) := by decide +kernel
theorem d_M_init_321 : decode b_M_init 321 = .ok (.dup, 1) := by decide +kernel
theorem d_M_init_322 : decode b_M_init 322 = .ok (.bipush 57, 2) := by decide +kernel
theorem d_M_init_324 : decode b_M_init 324 = .ok (.lconst 0, 1) := by decide +kernel
theorem d_M_init_325 : decode b_M_init 325 = .ok (.lastore, 1) := by decide +kernel
theorem d_M_init_326 : decode b_M_init 326 = .ok (.dup, 1) := by decide +kernel
theorem d_M_init_327 : decode b_M_init 327 = .ok (.bipush 58, 2) := by decide +kernel
theorem d_M_init_329 : decode b_M_init 329 = .ok (.lconst 0, 1) := by decide +kernel
theorem d_M_init_330 : decode b_M_init 330 = .ok (.lastore, 1) := by decide +kernel
theorem d_M_init_331 : decode b_M_init 331 = .ok (.dup, 1) := by decide +kernel
theorem d_M_init_332 : decode b_M_init 332 = .ok (.bipush 59, 2) := by decide +kernel
theorem d_M_init_334 : decode b_M_init 334 = .ok (.lconst 0, 1) := by decide +kernel
theorem d_M_init_335 : decode b_M_init 335 = .ok (.lastore, 1) := by decide +kernel
theorem d_M_init_336 : decode b_M_init 336 = .ok (.dup, 1) := by decide +kernel
theorem d_M_init_337 : decode b_M_init 337 = .ok (.bipush 60, 2) := by decide +kernel
theorem d_M_init_339 : decode b_M_init 339 = .ok (.ldc2_w 39, 3) := by decide +kernel
theorem d_M_init_342 : decode b_M_init 342 = .ok (.lastore, 1) := by decide +kernel
theorem d_M_init_343 : decode b_M_init 343 = .ok (.dup, 1) := by decide +kernel
theorem d_M_init_344 : decode b_M_init 344 = .ok (.bipush 61, 2) := by decide +kernel
theorem d_M_init_346 : decode b_M_init 346 = .ok (.lconst 0, 1) := by decide +kernel
theorem d_M_init_347 : decode b_M_init 347 = .ok (.lastore, 1) := by decide +kernel
theorem d_M_init_348 : decode b_M_init 348 = .ok (.dup, 1) := by decide +kernel
theorem d_M_init_349 : decode b_M_init 349 = .ok (.bipush 62, 2) := by decide +kernel
theorem d_M_init_351 : decode b_M_init 351 = .ok (.lconst 0, 1) := by decide +kernel
theorem d_M_init_352 : decode b_M_init 352 = .ok (.lastore, 1) := by decide +kernel
theorem d_M_init_353 : decode b_M_init 353 = .ok (.dup, 1) := by decide +kernel
theorem d_M_init_354 : decode b_M_init 354 = .ok (.bipush 63, 2) := by decide +kernel
theorem d_M_init_356 : decode b_M_init 356 = .ok (.lconst 0, 1) := by decide +kernel
theorem d_M_init_357 : decode b_M_init 357 = .ok (.lastore, 1) := by decide +kernel
theorem d_M_init_358 : decode b_M_init 358 = .ok (.dup, 1) := by decide +kernel
theorem d_M_init_359 : decode b_M_init 359 = .ok (.bipush 64, 2) := by decide +kernel
theorem d_M_init_361 : decode b_M_init 361 = .ok (.ldc2_w 41, 3) := by decide +kernel
theorem d_M_init_364 : decode b_M_init 364 = .ok (.lastore, 1) := by decide +kernel
theorem d_M_init_365 : decode b_M_init 365 = .ok (.dup, 1) := by decide +kernel
theorem d_M_init_366 : decode b_M_init 366 = .ok (.bipush 65, 2) := by decide +kernel
theorem d_M_init_368 : decode b_M_init 368 = .ok (.lconst 0, 1) := by decide +kernel
theorem d_M_init_369 : decode b_M_init 369 = .ok (.lastore, 1) := by decide +kernel
theorem d_M_init_370 : decode b_M_init 370 = .ok (.dup, 1) := by decide +kernel
theorem d_M_init_371 : decode b_M_init 371 = .ok (.bipush 66, 2) := by decide +kernel
theorem d_M_init_373 : decode b_M_init 373 = .ok (.lconst 0, 1) := by decide +kernel
theorem d_M_init_374 : decode b_M_init 374 = .ok (.lastore, 1) := by decide +kernel
theorem d_M_init_375 : decode b_M_init 375 = .ok (.dup, 1) := by decide +kernel
theorem d_M_init_376 : decode b_M_init 376 = .ok (.bipush 67, 2) := by decide +kernel
theorem d_M_init_378 : decode b_M_init 378 = .ok (.lconst 0, 1) := by decide +kernel
theorem d_M_init_379 : decode b_M_init 379 = .ok (.lastore, 1) := by decide +kernel
theorem d_M_init_380 : decode b_M_init 380 = .ok (.dup, 1) := by decide +kernel
theorem d_M_init_381 : decode b_M_init 381 = .ok (.bipush 68, 2) := by decide +kernel
theorem d_M_init_383 : decode b_M_init 383 = .ok (.ldc2_w 43, 3) := by decide +kernel
theorem d_M_init_386 : decode b_M_init 386 = .ok (.lastore, 1) := by decide +kernel
theorem d_M_init_387 : decode b_M_init 387 = .ok (.dup, 1) := by decide +kernel
theorem d_M_init_388 : decode b_M_init 388 = .ok (.bipush 69, 2) := by decide +kernel
theorem d_M_init_390 : decode b_M_init 390 = .ok (.lconst 0, 1) := by decide +kernel
theorem d_M_init_391 : decode b_M_init 391 = .ok (.lastore, 1) := by decide +kernel
theorem d_M_init_392 : decode b_M_init 392 = .ok (.dup, 1) := by decide +kernel
theorem d_M_init_393 : decode b_M_init 393 = .ok (.bipush 70, 2) := by decide +kernel
theorem d_M_init_395 : decode b_M_init 395 = .ok (.lconst 0, 1) := by decide +kernel
theorem d_M_init_396 : decode b_M_init 396 = .ok (.lastore, 1) := by decide +kernel
theorem d_M_init_397 : decode b_M_init 397 = .ok (.dup, 1) := by decide +kernel
theorem d_M_init_398 : decode b_M_init 398 = .ok (.bipush 71, 2) := by decide +kernel
theorem d_M_init_400 : decode b_M_init 400 = .ok (.lconst 0, 1) := by decide +kernel
theorem d_M_init_401 : decode b_M_init 401 = .ok (.lastore, 1) := by decide +kernel
theorem d_M_init_402 : decode b_M_init 402 = .ok (.dup, 1) := by decide +kernel
theorem d_M_init_403 : decode b_M_init 403 = .ok (.bipush 72, 2) := by decide +kernel
theorem d_M_init_405 : decode b_M_init 405 = .ok (.ldc2_w 45, 3) := by decide +kernel
theorem d_M_init_408 : decode b_M_init 408 = .ok (.lastore, 1) := by decide +kernel
theorem d_M_init_409 : decode b_M_init 409 = .ok (.dup, 1) := by decide +kernel
theorem d_M_init_410 : decode b_M_init 410 = .ok (.bipush 73, 2) := by decide +kernel
theorem d_M_init_412 : decode b_M_init 412 = .ok (.lconst 0, 1) := by decide +kernel
theorem d_M_init_413 : decode b_M_init 413 = .ok (.lastore, 1) := by decide +kernel
theorem d_M_init_414 : decode b_M_init 414 = .ok (.dup, 1) := by decide +kernel
theorem d_M_init_415 : decode b_M_init 415 = .ok (.bipush 74, 2) := by decide +kernel
theorem d_M_init_417 : decode b_M_init 417 = .ok (.lconst 0, 1) := by decide +kernel
theorem d_M_init_418 : decode b_M_init 418 = .ok (.lastore, 1) := by decide +kernel
theorem d_M_init_419 : decode b_M_init 419 = .ok (.dup, 1) := by decide +kernel
theorem d_M_init_420 : decode b_M_init 420 = .ok (.bipush 75, 2) := by decide +kernel
theorem d_M_init_422 : decode b_M_init 422 = .ok (.lconst 0, 1) := by decide +kernel
theorem d_M_init_423 : decode b_M_init 423 = .ok (.lastore, 1) := by decide +kernel
theorem d_M_init_424 : decode b_M_init 424 = .ok (.dup, 1) := by decide +kernel
theorem d_M_init_425 : decode b_M_init 425 = .ok (.bipush 76, 2) := by decide +kernel
theorem d_M_init_427 : decode b_M_init 427 = .ok (.ldc2_w 47, 3) := by decide +kernel
theorem d_M_init_430 : decode b_M_init 430 = .ok (.lastore, 1) := by decide +kernel
theorem d_M_init_431 : decode b_M_init 431 = .ok (.dup, 1) := by decide +kernel
theorem d_M_init_432 : decode b_M_init 432 = .ok (.bipush 77, 2) := by decide +kernel
theorem d_M_init_434 : decode b_M_init 434 = .ok (.lconst 0, 1) := by decide +kernel
theorem d_M_init_435 : decode b_M_init 435 = .ok (.lastore, 1) := by decide +kernel
theorem d_M_init_436 : decode b_M_init 436 = .ok (.dup, 1) := by decide +kernel
theorem d_M_init_437 : decode b_M_init 437 = .ok (.bipush 78, 2) := by decide +kernel
theorem d_M_init_439 : decode b_M_init 439 = .ok (.lconst 0, 1) := by decide +kernel
theorem d_M_init_440 : decode b_M_init 440 = .ok (.lastore, 1) := by decide +kernel
theorem d_M_init_441 : decode b_M_init 441 = .ok (.dup, 1) := by decide +kernel
theorem d_M_init_442 : decode b_M_init 442 = .ok (.bipush 79, 2) := by decide +kernel
theorem d_M_init_444 : decode b_M_init 444 = .ok (.lconst 0, 1) := by decide +kernel
theorem d_M_init_445 : decode b_M_init 445 = .ok (.lastore, 1) := by decide +kernel
theorem d_M_init_446 : decode b_M_init 446 = .ok (.dup, 1) := by decide +kernel
theorem d_M_init_447 : decode b_M_init 447 = .ok (.bipush 80, 2) := by decide +kernel
theorem d_M_init_449 : decode b_M_init 449 = .ok (.ldc2_w 49, 3) := by decide +kernel
theorem d_M_init_452 : decode b_M_init 452 = .ok (.lastore, 1) := by decide +kernel
theorem d_M_init_453 : decode b_M_init 453 = .ok (.dup, 1) := by decide +kernel
theorem d_M_init_454 : decode b_M_init 454 = .ok (.bipush 81, 2) := by decide +kernel
theorem d_M_init_456 : decode b_M_init 456 = .ok (.lconst 0, 1) := by decide +kernel
theorem d_M_init_457 : decode b_M_init 457 = .ok (.lastore, 1) := by decide +kernel
theorem d_M_init_458 : decode b_M_init 458 = .ok (.dup, 1) := by decide +kernel
theorem d_M_init_459 : decode b_M_init 459 = .ok (.bipush 82, 2) := by decide +kernel
theorem d_M_init_461 : decode b_M_init 461 = .ok (.lconst 0, 1) := by decide +kernel
theorem d_M_init_462 : decode b_M_init 462 = .ok (.lastore, 1) := by decide +kernel
theorem d_M_init_463 : decode b_M_init 463 = .ok (.dup, 1) := by decide +kernel
theorem d_M_init_464 : decode b_M_init 464 = .ok (.bipush 83, 2) := by decide +kernel
theorem d_M_init_466 : decode b_M_init 466 = .ok (.lconst 0, 1) := by decide +kernel
theorem d_M_init_467 : decode b_M_init 467 = .ok (.lastore, 1) := by decide +kernel
theorem d_M_init_468 : decode b_M_init 468 = .ok (.dup, 1) := by decide +kernel
theorem d_M_init_469 : decode b_M_init 469 = .ok (.bipush 84, 2) := by decide +kernel
theorem d_M_init_471 : decode b_M_init 471 = .ok (.ldc2_w 51, 3) := by decide +kernel
theorem d_M_init_474 : decode b_M_init 474 = .ok (.lastore, 1) := by decide +kernel
theorem d_M_init_475 : decode b_M_init 475 = .ok (.dup, 1) := by decide +kernel
theorem d_M_init_476 : decode b_M_init 476 = .ok (.bipush 85, 2) := by decide +kernel
theorem d_M_init_478 : decode b_M_init 478 = .ok (.lconst 0, 1) := by decide +kernel
theorem d_M_init_479 : decode b_M_init 479 = .ok (.lastore, 1) := by decide +kernel
theorem d_M_init_480 : decode b_M_init 480 = .ok (.dup, 1) := by decide +kernel
theorem d_M_init_481 : decode b_M_init 481 = .ok (.bipush 86, 2) := by decide +kernel
theorem d_M_init_483 : decode b_M_init 483 = .ok (.lconst 0, 1) := by decide +kernel
theorem d_M_init_484 : decode b_M_init 484 = .ok (.lastore, 1) := by decide +kernel
theorem d_M_init_485 : decode b_M_init 485 = .ok (.dup, 1) := by decide +kernel
theorem d_M_init_486 : decode b_M_init 486 = .ok (.bipush 87, 2) := by decide +kernel
theorem d_M_init_488 : decode b_M_init 488 = .ok (.lconst 0, 1) := by decide +kernel
theorem d_M_init_489 : decode b_M_init 489 = .ok (.lastore, 1) := by decide +kernel
theorem d_M_init_490 : decode b_M_init 490 = .ok (.dup, 1) := by decide +kernel
theorem d_M_init_491 : decode b_M_init 491 = .ok (.bipush 88, 2) := by decide +kernel
theorem d_M_init_493 : decode b_M_init 493 = .ok (.ldc2_w 53, 3) := by decide +kernel
theorem d_M_init_496 : decode b_M_init 496 = .ok (.lastore, 1) := by decide +kernel
theorem d_M_init_497 : decode b_M_init 497 = .ok (.dup, 1) := by decide +kernel
theorem d_M_init_498 : decode b_M_init 498 = .ok (.bipush 89, 2) := by decide +kernel
theorem d_M_init_500 : decode b_M_init 500 = .ok (.lconst 0, 1) := by decide +kernel
theorem d_M_init_501 : decode b_M_init 501 = .ok (.lastore, 1) := by decide +kernel
theorem d_M_init_502 : decode b_M_init 502 = .ok (.dup, 1) := by decide +kernel
theorem d_M_init_503 : decode b_M_init 503 = .ok (.bipush 90, 2) := by decide +kernel
theorem d_M_init_505 : decode b_M_init 505 = .ok (.lconst 0, 1) := by decide +kernel
theorem d_M_init_506 : decode b_M_init 506 = .ok (.lastore, 1) := by decide +kernel
theorem d_M_init_507 : decode b_M_init 507 = .ok (.dup, 1) := by decide +kernel
theorem d_M_init_508 : decode b_M_init 508 = .ok (.bipush 91, 2) := by decide +kernel
theorem d_M_init_510 : decode b_M_init 510 = .ok (.lconst 0, 1) := by decide +kernel
theorem d_M_init_511 : decode b_M_init 511 = .ok (.lastore, 1) := by decide +kernel
theorem d_M_init_512 : decode b_M_init 512 = .ok (.dup, 1) := by decide +kernel
theorem d_M_init_513 : decode b_M_init 513 = .ok (.bipush 92, 2) := by decide +kernel
theorem d_M_init_515 : decode b_M_init 515 = .ok (.ldc2_w 55, 3) := by decide +kernel
theorem d_M_init_518 : decode b_M_init 518 = .ok (.lastore, 1) := by decide +kernel
theorem d_M_init_519 : decode b_M_init 519 = .ok (.dup, 1) := by decide +kernel
theorem d_M_init_520 : decode b_M_init 520 = .ok (.bipush 93, 2) := by decide +kernel
theorem d_M_init_522 : decode b_M_init 522 = .ok (.lconst 0, 1) := by decide +kernel
theorem d_M_init_523 : decode b_M_init 523 = .ok (.lastore, 1) := by decide +kernel
theorem d_M_init_524 : decode b_M_init 524 = .ok (.dup, 1) := by decide +kernel
theorem d_M_init_525 : decode b_M_init 525 = .ok (.bipush 94, 2) := by decide +kernel
theorem d_M_init_527 : decode b_M_init 527 = .ok (.lconst 0, 1) := by decide +kernel
theorem d_M_init_528 : decode b_M_init 528 = .ok (.lastore, 1) := by decide +kernel
theorem d_M_init_529 : decode b_M_init 529 = .ok (.dup, 1) := by decide +kernel
theorem d_M_init_530 : decode b_M_init 530 = .ok (.bipush 95, 2) := by decide +kernel
theorem d_M_init_532 : decode b_M_init 532 = .ok (.lconst 0, 1) := by decide +kernel
theorem d_M_init_533 : decode b_M_init 533 = .ok (.lastore, 1) := by decide +kernel
theorem d_M_init_534 : decode b_M_init 534 = .ok (.dup, 1) := by decide +kernel
theorem d_M_init_535 : decode b_M_init 535 = .ok (.bipush 96, 2) := by decide +kernel
theorem d_M_init_537 : decode b_M_init 537 = .ok (.ldc2_w 57, 3) := by decide +kernel
theorem d_M_init_540 : decode b_M_init 540 = .ok (.lastore, 1) := by decide +kernel
theorem d_M_init_541 : decode b_M_init 541 = .ok (.dup, 1) := by decide +kernel
theorem d_M_init_542 : decode b_M_init 542 = .ok (.bipush 97, 2) := by decide +kernel
theorem d_M_init_544 : decode b_M_init 544 = .ok (.lconst 0, 1) := by decide +kernel
theorem d_M_init_545 : decode b_M_init 545 = .ok (.lastore, 1) := by decide +kernel
theorem d_M_init_546 : decode b_M_init 546 = .ok (.dup, 1) := by decide +kernel
theorem d_M_init_547 : decode b_M_init 547 = .ok (.bipush 98, 2) := by decide +kernel
theorem d_M_init_549 : decode b_M_init 549 = .ok (.lconst 0, 1) := by decide +kernel
theorem d_M_init_550 : decode b_M_init 550 = .ok (.lastore, 1) := by decide +kernel
theorem d_M_init_551 : decode b_M_init 551 = .ok (.dup, 1) := by decide +kernel
theorem d_M_init_552 : decode b_M_init 552 = .ok (.bipush 99, 2) := by decide +kernel
theorem d_M_init_554 : decode b_M_init 554 = .ok (.lconst 0, 1) := by decide +kernel
theorem d_M_init_555 : decode b_M_init 555 = .ok (.lastore, 1) := by decide +kernel
theorem d_M_init_556 : decode b_M_init 556 = .ok (.dup, 1) := by decide +kernel
theorem d_M_init_557 : decode b_M_init 557 = .ok (.bipush 100, 2) := by decide +kernel
theorem d_M_init_559 : decode b_M_init 559 = .ok (.ldc2_w 59, 3) := by decide +kernel
theorem d_M_init_562 : decode b_M_init 562 = .ok (.lastore, 1) := by decide +kernel
theorem d_M_init_563 : decode b_M_init 563 = .ok (.dup, 1) := by decide +kernel
theorem d_M_init_564 : decode b_M_init 564 = .ok (.bipush 101, 2) := by decide +kernel
theorem d_M_init_566 : decode b_M_init 566 = .ok (.lconst 0, 1) := by decide +kernel
theorem d_M_init_567 : decode b_M_init 567 = .ok (.lastore, 1) := by decide +kernel
theorem d_M_init_568 : decode b_M_init 568 = .ok (.dup, 1) := by decide +kernel
theorem d_M_init_569 : decode b_M_init 569 = .ok (.bipush 102, 2) := by decide +kernel
theorem d_M_init_571 : decode b_M_init 571 = .ok (.lconst 0, 1) := by decide +kernel
theorem d_M_init_572 : decode b_M_init 572 = .ok (.lastore, 1) := by decide +kernel
theorem d_M_init_573 : decode b_M_init 573 = .ok (.dup, 1) := by decide +kernel
theorem d_M_init_574 : decode b_M_init 574 = .ok (.bipush 103, 2) := by decide +kernel
theorem d_M_init_576 : decode b_M_init 576 = .ok (.lconst 0, 1) := by decide +kernel
theorem d_M_init_577 : decode b_M_init 577 = .ok (.lastore, 1) := by decide +kernel
theorem d_M_init_578 : decode b_M_init 578 = .ok (.dup, 1) := by decide +kernel
theorem d_M_init_579 : decode b_M_init 579 = .ok (.bipush 104, 2) := by decide +kernel
theorem d_M_init_581 : decode b_M_init 581 = .ok (.ldc2_w 61, 3) := by decide +kernel
theorem d_M_init_584 : decode b_M_init 584 = .ok (.lastore, 1) := by decide +kernel
theorem d_M_init_585 : decode b_M_init 585 = .ok (.dup, 1) := by decide +kernel
theorem d_M_init_586 : decode b_M_init 586 = .ok (.bipush 105, 2) := by decide +kernel
theorem d_M_init_588 : decode b_M_init 588 = .ok (.lconst 0, 1) := by decide +kernel
theorem d_M_init_589 : decode b_M_init 589 = .ok (.lastore, 1) := by decide +kernel
theorem d_M_init_590 : decode b_M_init 590 = .ok (.dup, 1) := by decide +kernel
theorem d_M_init_591 : decode b_M_init 591 = .ok (.bipush 106, 2) := by decide +kernel
theorem d_M_init_593 : decode b_M_init 593 = .ok (.lconst 0, 1) := by decide +kernel
theorem d_M_init_594 : decode b_M_init 594 = .ok (.lastore, 1) := by decide +kernel
theorem d_M_init_595 : decode b_M_init 595 = .ok (.dup, 1) := by decide +kernel
theorem d_M_init_596 : decode b_M_init 596 = .ok (.bipush 107, 2) := by decide +kernel
theorem d_M_init_598 : decode b_M_init 598 = .ok (.lconst 0, 1) := by decide +kernel
theorem d_M_init_599 : decode b_M_init 599 = .ok (.lastore, 1) := by decide +kernel
theorem d_M_init_600 : decode b_M_init 600 = .ok (.dup, 1) := by decide +kernel
theorem d_M_init_601 : decode b_M_init 601 = .ok (.bipush 108, 2) := by decide +kernel
theorem d_M_init_603 : decode b_M_init 603 = .ok (.ldc2_w 63, 3) := by decide +kernel
theorem d_M_init_606 : decode b_M_init 606 = .ok (.lastore, 1) := by decide +kernel
theorem d_M_init_607 : decode b_M_init 607 = .ok (.dup, 1) := by decide +kernel
theorem d_M_init_608 : decode b_M_init 608 = .ok (.bipush 109, 2) := by decide +kernel
theorem d_M_init_610 : decode b_M_init 610 = .ok (.lconst 0, 1) := by decide +kernel
theorem d_M_init_611 : decode b_M_init 611 = .ok (.lastore, 1) := by decide +kernel
theorem d_M_init_612 : decode b_M_init 612 = .ok (.dup, 1) := by decide +kernel
theorem d_M_init_613 : decode b_M_init 613 = .ok (.bipush 110, 2) := by decide +kernel
theorem d_M_init_615 : decode b_M_init 615 = .ok (.lconst 0, 1) := by decide +kernel
theorem d_M_init_616 : decode b_M_init 616 = .ok (.lastore, 1) := by decide +kernel
theorem d_M_init_617 : decode b_M_init 617 = .ok (.dup, 1) := by decide +kernel
theorem d_M_init_618 : decode b_M_init 618 = .ok (.bipush 111, 2) := by decide +kernel
theorem d_M_init_620 : decode b_M_init 620 = .ok (.lconst 0, 1) := by decide +kernel
theorem d_M_init_621 : decode b_M_init 621 = .ok (.lastore, 1) := by decide +kernel
theorem d_M_init_622 : decode b_M_init 622 = .ok (.dup, 1) := by decide +kernel
theorem d_M_init_623 : decode b_M_init 623 = .ok (.bipush 112, 2) := by decide +kernel
theorem d_M_init_625 : decode b_M_init 625 = .ok (.ldc2_w 65, 3) := by decide +kernel
theorem d_M_init_628 : decode b_M_init 628 = .ok (.lastore, 1) := by decide +kernel
theorem d_M_init_629 : decode b_M_init 629 = .ok (.dup, 1) := by decide +kernel
theorem d_M_init_630 : decode b_M_init 630 = .ok (.bipush 113, 2) := by decide +kernel
theorem d_M_init_632 : decode b_M_init 632 = .ok (.lconst 0, 1) := by decide +kernel
theorem d_M_init_633 : decode b_M_init 633 = .ok (.lastore, 1) := by decide +kernel
theorem d_M_init_634 : decode b_M_init 634 = .ok (.dup, 1) := by decide +kernel
theorem d_M_init_635 : decode b_M_init 635 = .ok (.bipush 114, 2) := by decide +kernel
theorem d_M_init_637 : decode b_M_init 637 = .ok (.lconst 0, 1) := by decide +kernel
theorem d_M_init_638 : decode b_M_init 638 = .ok (.lastore, 1) := by decide +kernel
theorem d_M_init_639 : decode b_M_init 639 = .ok (.dup, 1) := by decide +kernel
theorem d_M_init_640 : decode b_M_init 640 = .ok (.bipush 115, 2) := by decide +kernel
theorem d_M_init_642 : decode b_M_init 642 = .ok (.lconst 0, 1) := by decide +kernel
theorem d_M_init_643 : decode b_M_init 643 = .ok (.lastore, 1) := by decide +kernel
theorem d_M_init_644 : decode b_M_init 644 = .ok (.dup, 1) := by decide +kernel
theorem d_M_init_645 : decode b_M_init 645 = .ok (.bipush 116, 2) := by decide +kernel
theorem d_M_init_647 : decode b_M_init 647 = .ok (.ldc2_w 67, 3) := by decide +kernel
theorem d_M_init_650 : decode b_M_init 650 = .ok (.lastore, 1) := by decide +kernel
theorem d_M_init_651 : decode b_M_init 651 = .ok (.dup, 1) := by decide +kernel
theorem d_M_init_652 : decode b_M_init 652 = .ok (.bipush 117, 2) := by decide +kernel
theorem d_M_init_654 : decode b_M_init 654 = .ok (.ldc2_w 69, 3) := by decide +kernel
theorem d_M_init_657 : decode b_M_init 657 = .ok (.lastore, 1) := by decide +kernel
theorem d_M_init_658 : decode b_M_init 658 = .ok (.dup, 1) := by decide +kernel
theorem d_M_init_659 : decode b_M_init 659 = .ok (.bipush 118, 2) := by decide +kernel
theorem d_M_init_661 : decode b_M_init 661 = .ok (.lconst 0, 1) := by decide +kernel
theorem d_M_init_662 : decode b_M_init 662 = .ok (.lastore, 1) := by decide +kernel
theorem d_M_init_663 : decode b_M_init 663 = .ok (.dup, 1) := by decide +kernel
theorem d_M_init_664 : decode b_M_init 664 = .ok (.bipush 119, 2) := by decide +kernel
theorem d_M_init_666 : decode b_M_init 666 = .ok (.lconst 0, 1) := by decide +kernel
theorem d_M_init_667 : decode b_M_init 667 = .ok (.lastore, 1) := by decide +kernel
theorem d_M_init_668 : decode b_M_init 668 = .ok (.dup, 1) := by decide +kernel
theorem d_M_init_669 : decode b_M_init 669 = .ok (.bipush 120, 2) := by decide +kernel
theorem d_M_init_671 : decode b_M_init 671 = .ok (.ldc2_w 71, 3) := by decide +kernel
theorem d_M_init_674 : decode b_M_init 674 = .ok (.lastore, 1) := by decide +kernel
theorem d_M_init_675 : decode b_M_init 675 = .ok (.dup, 1) := by decide +kernel
theorem d_M_init_676 : decode b_M_init 676 = .ok (.bipush 121, 2) := by decide +kernel
theorem d_M_init_678 : decode b_M_init 678 = .ok (.lconst 0, 1) := by decide +kernel
theorem d_M_init_679 : decode b_M_init 679 = .ok (.lastore, 1) := by decide +kernel
theorem d_M_init_680 : decode b_M_init 680 = .ok (.dup, 1) := by decide +kernel
theorem d_M_init_681 : decode b_M_init 681 = .ok (.bipush 122, 2) := by decide +kernel
theorem d_M_init_683 : decode b_M_init 683 = .ok (.lconst 0, 1) := by decide +kernel
theorem d_M_init_684 : decode b_M_init 684 = .ok (.lastore, 1) := by decide +kernel
theorem d_M_init_685 : decode b_M_init 685 = .ok (.dup, 1) := by decide +kernel
theorem d_M_init_686 : decode b_M_init 686 = .ok (.bipush 123, 2) := by decide +kernel
theorem d_M_init_688 : decode b_M_init 688 = .ok (.lconst 0, 1) := by decide +kernel
theorem d_M_init_689 : decode b_M_init 689 = .ok (.lastore, 1) := by decide +kernel
theorem d_M_init_690 : decode b_M_init 690 = .ok (.dup, 1) := by decide +kernel
theorem d_M_init_691 : decode b_M_init 691 = .ok (.bipush 124, 2) := by decide +kernel
theorem d_M_init_693 : decode b_M_init 693 = .ok (.ldc2_w 73, 3) := by decide +kernel
theorem d_M_init_696 : decode b_M_init 696 = .ok (.lastore, 1) := by decide +kernel
theorem d_M_init_697 : decode b_M_init 697 = .ok (.dup, 1) := by decide +kernel
theorem d_M_init_698 : decode b_M_init 698 = .ok (.bipush 125, 2) := by decide +kernel
theorem d_M_init_700 : decode b_M_init 700 = .ok (.lconst 0, 1) := by decide +kernel
theorem d_M_init_701 : decode b_M_init 701 = .ok (.lastore, 1) := by decide +kernel
theorem d_M_init_702 : decode b_M_init 702 = .ok (.dup, 1) := by decide +kernel
theorem d_M_init_703 : decode b_M_init 703 = .ok (.bipush 126, 2) := by decide +kernel
theorem d_M_init_705 : decode b_M_init 705 = .ok (.lconst 0, 1) := by decide +kernel
theorem d_M_init_706 : decode b_M_init 706 = .ok (.lastore, 1) := by decide +kernel
theorem d_M_init_707 : decode b_M_init 707 = .ok (.dup, 1) := by decide +kernel
theorem d_M_init_708 : decode b_M_init 708 = .ok (.bipush 127, 2) := by decide +kernel
theorem d_M_init_710 : decode b_M_init 710 = .ok (.lconst 0, 1) := by decide +kernel
theorem d_M_init_711 : decode b_M_init 711 = .ok (.lastore, 1) := by decide +kernel
theorem d_M_init_712 : decode b_M_init 712 = .ok (.dup, 1) := by decide +kernel
theorem d_M_init_713 : decode b_M_init 713 = .ok (.sipush 128, 3) := by decide +kernel
theorem d_M_init_716 : decode b_M_init 716 = .ok (.ldc2_w 75, 3) := by decide +kernel
theorem d_M_init_719 : decode b_M_init 719 = .ok (.lastore, 1) := by decide +kernel
theorem d_M_init_720 : decode b_M_init 720 = .ok (.dup, 1) := by decide +kernel
theorem d_M_init_721 : decode b_M_init 721 = .ok (.sipush 129, 3) := by decide +kernel
theorem d_M_init_724 : decode b_M_init 724 = .ok (.lconst 0, 1) := by decide +kernel
theorem d_M_init_725 : decode b_M_init 725 = .ok (.lastore, 1) := by decide +kernel
theorem d_M_init_726 : decode b_M_init 726 = .ok (.dup, 1) := by decide +kernel
theorem d_M_init_727 : decode b_M_init 727 = .ok (.sipush 130, 3) := by decide +kernel
theorem d_M_init_730 : decode b_M_init 730 = .ok (.lconst 0, 1) := by decide +kernel
theorem d_M_init_731 : decode b_M_init 731 = .ok (.lastore, 1) := by decide +kernel
theorem d_M_init_732 : decode b_M_init 732 = .ok (.dup, 1) := by decide +kernel
theorem d_M_init_733 : decode b_M_init 733 = .ok (.sipush 131, 3) := by decide +kernel
theorem d_M_init_736 : decode b_M_init 736 = .ok (.lconst 0, 1) := by decide +kernel
theorem d_M_init_737 : decode b_M_init 737 = .ok (.lastore, 1) := by decide +kernel
theorem d_M_init_738 : decode b_M_init 738 = .ok (.dup, 1) := by decide +kernel
theorem d_M_init_739 : decode b_M_init 739 = .ok (.sipush 132, 3) := by decide +kernel
theorem d_M_init_742 : decode b_M_init 742 = .ok (.ldc2_w 77, 3) := by decide +kernel
theorem d_M_init_745 : decode b_M_init 745 = .ok (.lastore, 1) := by decide +kernel
theorem d_M_init_746 : decode b_M_init 746 = .ok (.dup, 1) := by decide +kernel
theorem d_M_init_747 : decode b_M_init 747 = .ok (.sipush 133, 3) := by decide +kernel
theorem d_M_init_750 : decode b_M_init 750 = .ok (.lconst 0, 1) := by decide +kernel
theorem d_M_init_751 : decode b_M_init 751 = .ok (.lastore, 1) := by decide +kernel
theorem d_M_init_752 : decode b_M_init 752 = .ok (.dup, 1) := by decide +kernel
theorem d_M_init_753 : decode b_M_init 753 = .ok (.sipush 134, 3) := by decide +kernel
theorem d_M_init_756 : decode b_M_init 756 = .ok (.lconst 0, 1) := by decide +kernel
theorem d_M_init_757 : decode b_M_init 757 = .ok (.lastore, 1) := by decide +kernel
theorem d_M_init_758 : decode b_M_init 758 = .ok (.dup, 1) := by decide +kernel
theorem d_M_init_759 : decode b_M_init 759 = .ok (.sipush 135, 3) := by decide +kernel
theorem d_M_init_762 : decode b_M_init 762 = .ok (.lconst 0, 1) := by decide +kernel
theorem d_M_init_763 : decode b_M_init 763 = .ok (.lastore, 1) := by decide +kernel
theorem d_M_init_764 : decode b_M_init 764 = .ok (.dup, 1) := by decide +kernel
theorem d_M_init_765 : decode b_M_init 765 = .ok (.sipush 136, 3) := by decide +kernel
theorem d_M_init_768 : decode b_M_init 768 = .ok (.ldc2_w 79, 3) := by decide +kernel
theorem d_M_init_771 : decode b_M_init 771 = .ok (.lastore, 1) := by decide +kernel
theorem d_M_init_772 : decode b_M_init 772 = .ok (.dup, 1) := by decide +kernel
theorem d_M_init_773 : decode b_M_init 773 = .ok (.sipush 137, 3) := by decide +kernel
theorem d_M_init_776 : decode b_M_init 776 = .ok (.lconst 0, 1) := by decide +kernel
theorem d_M_init_777 : decode b_M_init 777 = .ok (.lastore, 1) := by decide +kernel
theorem d_M_init_778 : decode b_M_init 778 = .ok (.dup, 1) := by decide +kernel
theorem d_M_init_779 : decode b_M_init 779 = .ok (.sipush 138, 3) := by decide +kernel
theorem d_M_init_782 : decode b_M_init 782 = .ok (.lconst 0, 1) := by decide +kernel
theorem d_M_init_783 : decode b_M_init 783 = .ok (.lastore, 1) := by decide +kernel
theorem d_M_init_784 : decode b_M_init 784 = .ok (.dup, 1) := by decide +kernel
theorem d_M_init_785 : decode b_M_init 785 = .ok (.sipush 139, 3) := by decide +kernel
theorem d_M_init_788 : decode b_M_init 788 = .ok (.lconst 0, 1) := by decide +kernel
theorem d_M_init_789 : decode b_M_init 789 = .ok (.lastore, 1) := by decide +kernel
theorem d_M_init_790 : decode b_M_init 790 = .ok (.dup, 1) := by decide +kernel
theorem d_M_init_791 : decode b_M_init 791 = .ok (.sipush 140, 3) := by decide +kernel
theorem d_M_init_794 : decode b_M_init 794 = .ok (.ldc2_w 81, 3) := by decide +kernel
theorem d_M_init_797 : decode b_M_init 797 = .ok (.lastore, 1) := by decide +kernel
theorem d_M_init_798 : decode b_M_init 798 = .ok (.dup, 1) := by decide +kernel
theorem d_M_init_799 : decode b_M_init 799 = .ok (.sipush 141, 3) := by decide +kernel
theorem d_M_init_802 : decode b_M_init 802 = .ok (.lconst 0, 1) := by decide +kernel
theorem d_M_init_803 : decode b_M_init 803 = .ok (.lastore, 1) := by decide +kernel
theorem d_M_init_804 : decode b_M_init 804 = .ok (.dup, 1) := by decide +kernel
theorem d_M_init_805 : decode b_M_init 805 = .ok (.sipush 142, 3) := by decide +kernel
theorem d_M_init_808 : decode b_M_init 808 = .ok (.lconst 0, 1) := by decide +kernel
theorem d_M_init_809 : decode b_M_init 809 = .ok (.lastore, 1) := by decide +kernel
theorem d_M_init_810 : decode b_M_init 810 = .ok (.dup, 1) := by decide +kernel
theorem d_M_init_811 : decode b_M_init 811 = .ok (.sipush 143, 3) := by decide +kernel
theorem d_M_init_814 : decode b_M_init 814 = .ok (.lconst 0, 1) := by decide +kernel
theorem d_M_init_815 : decode b_M_init 815 = .ok (.lastore, 1) := by decide +kernel
theorem d_M_init_816 : decode b_M_init 816 = .ok (.dup, 1) := by decide +kernel
theorem d_M_init_817 : decode b_M_init 817 = .ok (.sipush 144, 3) := by decide +kernel
theorem d_M_init_820 : decode b_M_init 820 = .ok (.ldc2_w 83, 3) := by decide +kernel
theorem d_M_init_823 : decode b_M_init 823 = .ok (.lastore, 1) := by decide +kernel
theorem d_M_init_824 : decode b_M_init 824 = .ok (.dup, 1) := by decide +kernel
theorem d_M_init_825 : decode b_M_init 825 = .ok (.sipush 145, 3) := by decide +kernel
theorem d_M_init_828 : decode b_M_init 828 = .ok (.lconst 0, 1) := by decide +kernel
theorem d_M_init_829 : decode b_M_init 829 = .ok (.lastore, 1) := by decide +kernel
theorem d_M_init_830 : decode b_M_init 830 = .ok (.dup, 1) := by decide +kernel
theorem d_M_init_831 : decode b_M_init 831 = .ok (.sipush 146, 3) := by decide +kernel
theorem d_M_init_834 : decode b_M_init 834 = .ok (.lconst 0, 1) := by decide +kernel
theorem d_M_init_835 : decode b_M_init 835 = .ok (.lastore, 1) := by decide +kernel
theorem d_M_init_836 : decode b_M_init 836 = .ok (.dup, 1) := by decide +kernel
theorem d_M_init_837 : decode b_M_init 837 = .ok (.sipush 147, 3) := by decide +kernel
theorem d_M_init_840 : decode b_M_init 840 = .ok (.lconst 0, 1) := by decide +kernel
theorem d_M_init_841 : decode b_M_init 841 = .ok (.lastore, 1) := by decide +kernel
theorem d_M_init_842 : decode b_M_init 842 = .ok (.dup, 1) := by decide +kernel
theorem d_M_init_843 : decode b_M_init 843 = .ok (.sipush 148, 3) := by decide +kernel
theorem d_M_init_846 : decode b_M_init 846 = .ok (.ldc2_w 85, 3) := by decide +kernel
theorem d_M_init_849 : decode b_M_init 849 = .ok (.lastore, 1) := by decide +kernel
theorem d_M_init_850 : decode b_M_init 850 = .ok (.dup, 1) := by decide +kernel
theorem d_M_init_851 : decode b_M_init 851 = .ok (.sipush 149, 3) := by decide +kernel
theorem d_M_init_854 : decode b_M_init 854 = .ok (.lconst 0, 1) := by decide +kernel
theorem d_M_init_855 : decode b_M_init 855 = .ok (.lastore, 1) := by decide +kernel
theorem d_M_init_856 : decode b_M_init 856 = .ok (.dup, 1) := by decide +kernel
theorem d_M_init_857 : decode b_M_init 857 = .ok (.sipush 150, 3) := by decide +kernel
theorem d_M_init_860 : decode b_M_init 860 = .ok (.lconst 0, 1) := by decide +kernel
theorem d_M_init_861 : decode b_M_init 861 = .ok (.lastore, 1) := by decide +kernel
theorem d_M_init_862 : decode b_M_init 862 = .ok (.dup, 1) := by decide +kernel
theorem d_M_init_863 : decode b_M_init 863 = .ok (.sipush 151, 3) := by decide +kernel
theorem d_M_init_866 : decode b_M_init 866 = .ok (.lconst 0, 1) := by decide +kernel
theorem d_M_init_867 : decode b_M_init 867 = .ok (.lastore, 1) := by decide +kernel
theorem d_M_init_868 : decode b_M_init 868 = .ok (.dup, 1) := by decide +kernel
theorem d_M_init_869 : decode b_M_init 869 = .ok (.sipush 152, 3) := by decide +kernel
theorem d_M_init_872 : decode b_M_init 872 = .ok (.ldc2_w 87, 3) := by decide +kernel
theorem d_M_init_875 : decode b_M_init 875 = .ok (.lastore, 1) := by decide +kernel
theorem d_M_init_876 : decode b_M_init 876 = .ok (.dup, 1) := by decide +kernel
theorem d_M_init_877 : decode b_M_init 877 = .ok (.sipush 153, 3) := by decide +kernel
theorem d_M_init_880 : decode b_M_init 880 = .ok (.ldc2_w 89, 3) := by decide +kernel
theorem d_M_init_883 : decode b_M_init 883 = .ok (.lastore, 1) := by decide +kernel
theorem d_M_init_884 : decode b_M_init 884 = .ok (.dup, 1) := by decide +kernel
theorem d_M_init_885 : decode b_M_init 885 = .ok (.sipush 154, 3) := by decide +kernel
theorem d_M_init_888 : decode b_M_init 888 = .ok (.lconst 0, 1) := by decide +kernel
theorem d_M_init_889 : decode b_M_init 889 = .ok (.lastore, 1) := by decide +kernel
theorem d_M_init_890 : decode b_M_init 890 = .ok (.dup, 1) := by decide +kernel
theorem d_M_init_891 : decode b_M_init 891 = .ok (.sipush 155, 3) := by decide +kernel
theorem d_M_init_894 : decode b_M_init 894 = .ok (.lconst 0, 1) := by decide +kernel
theorem d_M_init_895 : decode b_M_init 895 = .ok (.lastore, 1) := by decide +kernel
theorem d_M_init_896 : decode b_M_init 896 = .ok (.dup, 1) := by decide +kernel
theorem d_M_init_897 : decode b_M_init 897 = .ok (.sipush 156, 3) := by decide +kernel
theorem d_M_init_900 : decode b_M_init 900 = .ok (.ldc2_w 91, 3) := by decide +kernel
theorem d_M_init_903 : decode b_M_init 903 = .ok (.lastore, 1) := by decide +kernel
theorem d_M_init_904 : decode b_M_init 904 = .ok (.dup, 1) := by decide +kernel
theorem d_M_init_905 : decode b_M_init 905 = .ok (.sipush 157, 3) := by decide +kernel
theorem d_M_init_908 : decode b_M_init 908 = .ok (.lconst 0, 1) := by decide +kernel
theorem d_M_init_909 : decode b_M_init 909 = .ok (.lastore, 1) := by decide +kernel
theorem d_M_init_910 : decode b_M_init 910 = .ok (.dup, 1) := by decide +kernel
theorem d_M_init_911 : decode b_M_init 911 = .ok (.sipush 158, 3) := by decide +kernel
theorem d_M_init_914 : decode b_M_init 914 = .ok (.lconst 0, 1) := by decide +kernel
theorem d_M_init_915 : decode b_M_init 915 = .ok (.lastore, 1) := by decide +kernel
theorem d_M_init_916 : decode b_M_init 916 = .ok (.dup, 1) := by decide +kernel
theorem d_M_init_917 : decode b_M_init 917 = .ok (.sipush 159, 3) := by decide +kernel
theorem d_M_init_920 : decode b_M_init 920 = .ok (.lconst 0, 1) := by decide +kernel
theorem d_M_init_921 : decode b_M_init 921 = .ok (.lastore, 1) := by decide +kernel
theorem d_M_init_922 : decode b_M_init 922 = .ok (.dup, 1) := by decide +kernel
theorem d_M_init_923 : decode b_M_init 923 = .ok (.sipush 160, 3) := by decide +kernel
theorem d_M_init_926 : decode b_M_init 926 = .ok (.ldc2_w 93, 3) := by decide +kernel
theorem d_M_init_929 : decode b_M_init 929 = .ok (.lastore, 1) := by decide +kernel
theorem d_M_init_930 : decode b_M_init 930 = .ok (.dup, 1) := by decide +kernel
theorem d_M_init_931 : decode b_M_init 931 = .ok (.sipush 161, 3) := by decide +kernel
theorem d_M_init_934 : decode b_M_init 934 = .ok (.ldc2_w 95, 3) := by decide +kernel
theorem d_M_init_937 : decode b_M_init 937 = .ok (.lastore, 1) := by decide +kernel
theorem d_M_init_938 : decode b_M_init 938 = .ok (.dup, 1) := by decide +kernel
theorem d_M_init_939 : decode b_M_init 939 = .ok (.sipush 162, 3) := by decide +kernel
theorem d_M_init_942 : decode b_M_init 942 = .ok (.lconst 0, 1) := by decide +kernel
theorem d_M_init_943 : decode b_M_init 943 = .ok (.lastore, 1) := by decide +kernel
theorem d_M_init_944 : decode b_M_init 944 = .ok (.dup, 1) := by decide +kernel
theorem d_M_init_945 : decode b_M_init 945 = .ok (.sipush 163, 3) := by decide +kernel
theorem d_M_init_948 : decode b_M_init 948 = .ok (.lconst 0, 1) := by decide +kernel
theorem d_M_init_949 : decode b_M_init 949 = .ok (.lastore, 1) := by decide +kernel
theorem d_M_init_950 : decode b_M_init 950 = .ok (.dup, 1) := by decide +kernel
theorem d_M_init_951 : decode b_M_init 951 = .ok (.sipush 164, 3) := by decide +kernel
theorem d_M_init_954 : decode b_M_init 954 = .ok (.ldc2_w 97, 3) := by decide +kernel
theorem d_M_init_957 : decode b_M_init 957 = .ok (.lastore, 1) := by decide +kernel
theorem d_M_init_958 : decode b_M_init 958 = .ok (.dup, 1) := by decide +kernel
theorem d_M_init_959 : decode b_M_init 959 = .ok (.sipush 165, 3) := by decide +kernel
theorem d_M_init_962 : decode b_M_init 962 = .ok (.lconst 0, 1) := by decide +kernel
theorem d_M_init_963 : decode b_M_init 963 = .ok (.lastore, 1) := by decide +kernel
theorem d_M_init_964 : decode b_M_init 964 = .ok (.dup, 1) := by decide +kernel
theorem d_M_init_965 : decode b_M_init 965 = .ok (.sipush 166, 3) := by decide +kernel
theorem d_M_init_968 : decode b_M_init 968 = .ok (.lconst 0, 1) := by decide +kernel
theorem d_M_init_969 : decode b_M_init 969 = .ok (.lastore, 1) := by decide +kernel
theorem d_M_init_970 : decode b_M_init 970 = .ok (.dup, 1) := by decide +kernel
theorem d_M_init_971 : decode b_M_init 971 = .ok (.sipush 167, 3) := by decide +kernel
theorem d_M_init_974 : decode b_M_init 974 = .ok (.lconst 0, 1) := by decide +kernel
theorem d_M_init_975 : decode b_M_init 975 = .ok (.lastore, 1) := by decide +kernel
theorem d_M_init_976 : decode b_M_init 976 = .ok (.dup, 1) := by decide +kernel
theorem d_M_init_977 : decode b_M_init 977 = .ok (.sipush 168, 3) := by decide +kernel
theorem d_M_init_980 : decode b_M_init 980 = .ok (.ldc2_w 99, 3) := by decide +kernel
theorem d_M_init_983 : decode b_M_init 983 = .ok (.lastore, 1) := by decide +kernel
theorem d_M_init_984 : decode b_M_init 984 = .ok (.dup, 1) := by decide +kernel
theorem d_M_init_985 : decode b_M_init 985 = .ok (.sipush 169, 3) := by decide +kernel
theorem d_M_init_988 : decode b_M_init 988 = .ok (.lconst 0, 1) := by decide +kernel
theorem d_M_init_989 : decode b_M_init 989 = .ok (.lastore, 1) := by decide +kernel
theorem d_M_init_990 : decode b_M_init 990 = .ok (.dup, 1) := by decide +kernel
theorem d_M_init_991 : decode b_M_init 991 = .ok (.sipush 170, 3) := by decide +kernel
theorem d_M_init_994 : decode b_M_init 994 = .ok (.lconst 0, 1) := by decide +kernel
theorem d_M_init_995 : decode b_M_init 995 = .ok (.lastore, 1) := by decide +kernel
theorem d_M_init_996 : decode b_M_init 996 = .ok (.dup, 1) := by decide +kernel
theorem d_M_init_997 : decode b_M_init 997 = .ok (.sipush 171, 3) := by decide +kernel
theorem d_M_init_1000 : decode b_M_init 1000 = .ok (.lconst 0, 1) := by decide +kernel
theorem d_M_init_1001 : decode b_M_init 1001 = .ok (.lastore, 1) := by decide +kernel
theorem d_M_init_1002 : decode b_M_init 1002 = .ok (.dup, 1) := by decide +kernel
theorem d_M_init_1003 : decode b_M_init 1003 = .ok (.sipush 172, 3) := by decide +kernel
theorem d_M_init_1006 : decode b_M_init 1006 = .ok (.ldc2_w 101, 3) := by decide +kernel
theorem d_M_init_1009 : decode b_M_init 1009 = .ok (.lastore, 1) := by decide +kernel
theorem d_M_init_1010 : decode b_M_init 1010 = .ok (.dup, 1) := by decide +kernel
theorem d_M_init_1011 : decode b_M_init 1011 = .ok (.sipush 173, 3) := by decide +kernel
theorem d_M_init_1014 : decode b_M_init 1014 = .ok (.lconst 0, 1) := by decide +kernel
theorem d_M_init_1015 : decode b_M_init 1015 = .ok (.lastore, 1) := by decide +kernel
theorem d_M_init_1016 : decode b_M_init 1016 = .ok (.dup, 1) := by decide +kernel
theorem d_M_init_1017 : decode b_M_init 1017 = .ok (.sipush 174, 3) := by decide +kernel
theorem d_M_init_1020 : decode b_M_init 1020 = .ok (.lconst 0, 1) := by decide +kernel
theorem d_M_init_1021 : decode b_M_init 1021 = .ok (.lastore, 1) := by decide +kernel
theorem d_M_init_1022 : decode b_M_init 1022 = .ok (.dup, 1) := by decide +kernel
theorem d_M_init_1023 : decode b_M_init 1023 = .ok (.sipush 175, 3) := by decide +kernel
theorem d_M_init_1026 : decode b_M_init 1026 = .ok (.lconst 0, 1) := by decide +kernel
theorem d_M_init_1027 : decode b_M_init 1027 = .ok (.lastore, 1) := by decide +kernel
theorem d_M_init_1028 : decode b_M_init 1028 = .ok (.dup, 1) := by decide +kernel
theorem d_M_init_1029 : decode b_M_init 1029 = .ok (.sipush 176, 3) := by decide +kernel
theorem d_M_init_1032 : decode b_M_init 1032 = .ok (.ldc2_w 103, 3) := by decide +kernel
theorem d_M_init_1035 : decode b_M_init 1035 = .ok (.lastore, 1) := by decide +kernel
theorem d_M_init_1036 : decode b_M_init 1036 = .ok (.dup, 1) := by decide +kernel
theorem d_M_init_1037 : decode b_M_init 1037 = .ok (.sipush 177, 3) := by decide +kernel
theorem d_M_init_1040 : decode b_M_init 1040 = .ok (.lconst 0, 1) := by decide +kernel
theorem d_M_init_1041 : decode b_M_init 1041 = .ok (.lastore, 1) := by decide +kernel
theorem d_M_init_1042 : decode b_M_init 1042 = .ok (.dup, 1) := by decide +kernel
theorem d_M_init_1043 : decode b_M_init 1043 = .ok (.sipush 178, 3) := by decide +kernel
theorem d_M_init_1046 : decode b_M_init 1046 = .ok (.lconst 0, 1) := by decide +kernel
theorem d_M_init_1047 : decode b_M_init 1047 = .ok (.lastore, 1) := by decide +kernel
theorem d_M_init_1048 : decode b_M_init 1048 = .ok (.dup, 1) := by decide +kernel
theorem d_M_init_1049 : decode b_M_init 1049 = .ok (.sipush 179, 3) := by decide +kernel
theorem d_M_init_1052 : decode b_M_init 1052 = .ok (.lconst 0, 1) := by decide +kernel
theorem d_M_init_1053 : decode b_M_init 1053 = .ok (.lastore, 1) := by decide +kernel
theorem d_M_init_1054 : decode b_M_init 1054 = .ok (.dup, 1) := by decide +kernel
theorem d_M_init_1055 : decode b_M_init 1055 = .ok (.sipush 180, 3) := by decide +kernel
theorem d_M_init_1058 : decode b_M_init 1058 = .ok (.ldc2_w 105, 3) := by decide +kernel
theorem d_M_init_1061 : decode b_M_init 1061 = .ok (.lastore, 1) := by decide +kernel
theorem d_M_init_1062 : decode b_M_init 1062 = .ok (.dup, 1) := by decide +kernel
theorem d_M_init_1063 : decode b_M_init 1063 = .ok (.sipush 181, 3) := by decide +kernel
theorem d_M_init_1066 : decode b_M_init 1066 = .ok (.lconst 0, 1) := by decide +kernel
theorem d_M_init_1067 : decode b_M_init 1067 = .ok (.lastore, 1) := by decide +kernel
theorem d_M_init_1068 : decode b_M_init 1068 = .ok (.dup, 1) := by decide +kernel
theorem d_M_init_1069 : decode b_M_init 1069 = .ok (.sipush 182, 3) := by decide +kernel
theorem d_M_init_1072 : decode b_M_init 1072 = .ok (.lconst 0, 1) := by decide +kernel
theorem d_M_init_1073 : decode b_M_init 1073 = .ok (.lastore, 1) := by decide +kernel
theorem d_M_init_1074 : decode b_M_init 1074 = .ok (.dup, 1) := by decide +kernel
theorem d_M_init_1075 : decode b_M_init 1075 = .ok (.sipush 183, 3) := by decide +kernel
theorem d_M_init_1078 : decode b_M_init 1078 = .ok (.lconst 0, 1) := by decide +kernel
theorem d_M_init_1079 : decode b_M_init 1079 = .ok (.lastore, 1) := by decide +kernel
theorem d_M_init_1080 : decode b_M_init 1080 = .ok (.dup, 1) := by decide +kernel
theorem d_M_init_1081 : decode b_M_init 1081 = .ok (.sipush 184, 3) := by decide +kernel
theorem d_M_init_1084 : decode b_M_init 1084 = .ok (.ldc2_w 107, 3) := by decide +kernel
theorem d_M_init_1087 : decode b_M_init 1087 = .ok (.lastore, 1) := by decide +kernel
theorem d_M_init_1088 : decode b_M_init 1088 = .ok (.dup, 1) := by decide +kernel
theorem d_M_init_1089 : decode b_M_init 1089 = .ok (.sipush 185, 3) := by decide +kernel
theorem d_M_init_1092 : decode b_M_init 1092 = .ok (.lconst 0, 1) := by decide +kernel
theorem d_M_init_1093 : decode b_M_init 1093 = .ok (.lastore, 1) := by decide +kernel
theorem d_M_init_1094 : decode b_M_init 1094 = .ok (.dup, 1) := by decide +kernel
theorem d_M_init_1095 : decode b_M_init 1095 = .ok (.sipush 186, 3) := by decide +kernel
theorem d_M_init_1098 : decode b_M_init 1098 = .ok (.lconst 0, 1) := by decide +kernel
theorem d_M_init_1099 : decode b_M_init 1099 = .ok (.lastore, 1) := by decide +kernel
theorem d_M_init_1100 : decode b_M_init 1100 = .ok (.dup, 1) := by decide +kernel
theorem d_M_init_1101 : decode b_M_init 1101 = .ok (.sipush 187, 3) := by decide +kernel
theorem d_M_init_1104 : decode b_M_init 1104 = .ok (.lconst 0, 1) := by decide +kernel
theorem d_M_init_1105 : decode b_M_init 1105 = .ok (.lastore, 1) := by decide +kernel
theorem d_M_init_1106 : decode b_M_init 1106 = .ok (.dup, 1) := by decide +kernel
theorem d_M_init_1107 : decode b_M_init 1107 = .ok (.sipush 188, 3) := by decide +kernel
theorem d_M_init_1110 : decode b_M_init 1110 = .ok (.ldc2_w 109, 3) := by decide +kernel
theorem d_M_init_1113 : decode b_M_init 1113 = .ok (.lastore, 1) := by decide +kernel
theorem d_M_init_1114 : decode b_M_init 1114 = .ok (.dup, 1) := by decide +kernel
theorem d_M_init_1115 : decode b_M_init 1115 = .ok (.sipush 189, 3) := by decide +kernel
theorem d_M_init_1118 : decode b_M_init 1118 = .ok (.lconst 0, 1) := by decide +kernel
theorem d_M_init_1119 : decode b_M_init 1119 = .ok (.lastore, 1) := by decide +kernel
theorem d_M_init_1120 : decode b_M_init 1120 = .ok (.dup, 1) := by decide +kernel
theorem d_M_init_1121 : decode b_M_init 1121 = .ok (.sipush 190, 3) := by decide +kernel
theorem d_M_init_1124 : decode b_M_init 1124 = .ok (.lconst 0, 1) := by decide +kernel
theorem d_M_init_1125 : decode b_M_init 1125 = .ok (.lastore, 1) := by decide +kernel
theorem d_M_init_1126 : decode b_M_init 1126 = .ok (.dup, 1) := by decide +kernel
theorem d_M_init_1127 : decode b_M_init 1127 = .ok (.sipush 191, 3) := by decide +kernel
theorem d_M_init_1130 : decode b_M_init 1130 = .ok (.lconst 0, 1) := by decide +kernel
theorem d_M_init_1131 : decode b_M_init 1131 = .ok (.lastore, 1) := by decide +kernel
theorem d_M_init_1132 : decode b_M_init 1132 = .ok (.dup, 1) := by decide +kernel
theorem d_M_init_1133 : decode b_M_init 1133 = .ok (.sipush 192, 3) := by decide +kernel
theorem d_M_init_1136 : decode b_M_init 1136 = .ok (.ldc2_w 111, 3) := by decide +kernel
theorem d_M_init_1139 : decode b_M_init 1139 = .ok (.lastore, 1) := by decide +kernel
theorem d_M_init_1140 : decode b_M_init 1140 = .ok (.dup, 1) := by decide +kernel
theorem d_M_init_1141 : decode b_M_init 1141 = .ok (.sipush 193, 3) := by decide +kernel
theorem d_M_init_1144 : decode b_M_init 1144 = .ok (.lconst 0, 1) := by decide +kernel
theorem d_M_init_1145 : decode b_M_init 1145 = .ok (.lastore, 1) := by decide +kernel
theorem d_M_init_1146 : decode b_M_init 1146 = .ok (.dup, 1) := by decide +kernel
theorem d_M_init_1147 : decode b_M_init 1147 = .ok (.sipush 194, 3) := by decide +kernel
theorem d_M_init_1150 : decode b_M_init 1150 = .ok (.lconst 0, 1) := by decide +kernel
theorem d_M_init_1151 : decode b_M_init 1151 = .ok (.lastore, 1) := by decide +kernel
theorem d_M_init_1152 : decode b_M_init 1152 = .ok (.dup, 1) := by decide +kernel
theorem d_M_init_1153 : decode b_M_init 1153 = .ok (.sipush 195, 3) := by decide +kernel
theorem d_M_init_1156 : decode b_M_init 1156 = .ok (.lconst 0, 1) := by decide +kernel
theorem d_M_init_1157 : decode b_M_init 1157 = .ok (.lastore, 1) := by decide +kernel
theorem d_M_init_1158 : decode b_M_init 1158 = .ok (.dup, 1) := by decide +kernel
theorem d_M_init_1159 : decode b_M_init 1159 = .ok (.sipush 196, 3) := by decide +kernel
theorem d_M_init_1162 : decode b_M_init 1162 = .ok (.ldc2_w 113, 3) := by decide +kernel
theorem d_M_init_1165 : decode b_M_init 1165 = .ok (.lastore, 1) := by decide +kernel
theorem d_M_init_1166 : decode b_M_init 1166 = .ok (.dup, 1) := by decide +kernel
theorem d_M_init_1167 : decode b_M_init 1167 = .ok (.sipush 197, 3) := by decide +kernel
theorem d_M_init_1170 : decode b_M_init 1170 = .ok (.ldc2_w 115, 3) := by decide +kernel
theorem d_M_init_1173 : decode b_M_init 1173 = .ok (.lastore, 1) := by decide +kernel
theorem d_M_init_1174 : decode b_M_init 1174 = .ok (.dup, 1) := by decide +kernel
theorem d_M_init_1175 : decode b_M_init 1175 = .ok (.sipush 198, 3) := by decide +kernel
theorem d_M_init_1178 : decode b_M_init 1178 = .ok (.lconst 0, 1) := by decide +kernel
theorem d_M_init_1179 : decode b_M_init 1179 = .ok (.lastore, 1) := by decide +kernel
theorem d_M_init_1180 : decode b_M_init 1180 = .ok (.dup, 1) := by decide +kernel
theorem d_M_init_1181 : decode b_M_init 1181 = .ok (.sipush 199, 3) := by decide +kernel
theorem d_M_init_1184 : decode b_M_init 1184 = .ok (.lconst 0, 1) := by decide +kernel
theorem d_M_init_1185 : decode b_M_init 1185 = .ok (.lastore, 1) := by decide +kernel
theorem d_M_init_1186 : decode b_M_init 1186 = .ok (.dup, 1) := by decide +kernel
theorem d_M_init_1187 : decode b_M_init 1187 = .ok (.sipush 200, 3) := by decide +kernel
theorem d_M_init_1190 : decode b_M_init 1190 = .ok (.ldc2_w 113, 3) := by decide +kernel
theorem d_M_init_1193 : decode b_M_init 1193 = .ok (.lastore, 1) := by decide +kernel
theorem d_M_init_1194 : decode b_M_init 1194 = .ok (.dup, 1) := by decide +kernel
theorem d_M_init_1195 : decode b_M_init 1195 = .ok (.sipush 201, 3) := by decide +kernel
theorem d_M_init_1198 : decode b_M_init 1198 = .ok (.ldc2_w 117, 3) := by decide +kernel
theorem d_M_init_1201 : decode b_M_init 1201 = .ok (.lastore, 1) := by decide +kernel
theorem d_M_init_1202 : decode b_M_init 1202 = .ok (.dup, 1) := by decide +kernel
theorem d_M_init_1203 : decode b_M_init 1203 = .ok (.sipush 202, 3) := by decide +kernel
theorem d_M_init_1206 : decode b_M_init 1206 = .ok (.lconst 0, 1) := by decide +kernel
theorem d_M_init_1207 : decode b_M_init 1207 = .ok (.lastore, 1) := by decide +kernel
theorem d_M_init_1208 : decode b_M_init 1208 = .ok (.dup, 1) := by decide +kernel
theorem d_M_init_1209 : decode b_M_init 1209 = .ok (.sipush 203, 3) := by decide +kernel
theorem d_M_init_1212 : decode b_M_init 1212 = .ok (.lconst 0, 1) := by decide +kernel
theorem d_M_init_1213 : decode b_M_init 1213 = .ok (.lastore, 1) := by decide +kernel
theorem d_M_init_1214 : decode b_M_init 1214 = .ok (.dup, 1) := by decide +kernel
theorem d_M_init_1215 : decode b_M_init 1215 = .ok (.sipush 204, 3) := by decide +kernel
theorem d_M_init_1218 : decode b_M_init 1218 = .ok (.ldc2_w 119, 3) := by decide +kernel
theorem d_M_init_1221 : decode b_M_init 1221 = .ok (.lastore, 1) := by decide +kernel
theorem d_M_init_1222 : decode b_M_init 1222 = .ok (.dup, 1) := by decide +kernel
theorem d_M_init_1223 : decode b_M_init 1223 = .ok (.sipush 205, 3) := by decide +kernel
theorem d_M_init_1226 : decode b_M_init 1226 = .ok (.ldc2_w 121, 3) := by decide +kernel
theorem d_M_init_1229 : decode b_M_init 1229 = .ok (.lastore, 1) := by decide +kernel
theorem d_M_init_1230 : decode b_M_init 1230 = .ok (.dup, 1) := by decide +kernel
theorem d_M_init_1231 : decode b_M_init 1231 = .ok (.sipush 206, 3) := by decide +kernel
theorem d_M_init_1234 : decode b_M_init 1234 = .ok (.lconst 0, 1) := by decide +kernel
theorem d_M_init_1235 : decode b_M_init 1235 = .ok (.lastore, 1) := by decide +kernel
theorem d_M_init_1236 : decode b_M_init 1236 = .ok (.dup, 1) := by decide +kernel
theorem d_M_init_1237 : decode b_M_init 1237 = .ok (.sipush 207, 3) := by decide +kernel
theorem d_M_init_1240 : decode b_M_init 1240 = .ok (.lconst 0, 1) := by decide +kernel
theorem d_M_init_1241 : decode b_M_init 1241 = .ok (.lastore, 1) := by decide +kernel
theorem d_M_init_1242 : decode b_M_init 1242 = .ok (.dup, 1) := by decide +kernel
theorem d_M_init_1243 : decode b_M_init 1243 = .ok (.sipush 208, 3) := by decide +kernel
theorem d_M_init_1246 : decode b_M_init 1246 = .ok (.ldc2_w 123, 3) := by decide +kernel
theorem d_M_init_1249 : decode b_M_init 1249 = .ok (.lastore, 1) := by decide +kernel
theorem d_M_init_1250 : decode b_M_init 1250 = .ok (.dup, 1) := by decide +kernel
theorem d_M_init_1251 : decode b_M_init 1251 = .ok (.sipush 209, 3) := by decide +kernel
theorem d_M_init_1254 : decode b_M_init 1254 = .ok (.ldc2_w 125, 3) := by decide +kernel
theorem d_M_init_1257 : decode b_M_init 1257 = .ok (.lastore, 1) := by decide +kernel
theorem d_M_init_1258 : decode b_M_init 1258 = .ok (.dup, 1) := by decide +kernel
theorem d_M_init_1259 : decode b_M_init 1259 = .ok (.sipush 210, 3) := by decide +kernel
theorem d_M_init_1262 : decode b_M_init 1262 = .ok (.lconst 0, 1) := by decide +kernel
theorem d_M_init_1263 : decode b_M_init 1263 = .ok (.lastore, 1) := by decide +kernel
theorem d_M_init_1264 : decode b_M_init 1264 = .ok (.dup, 1) := by decide +kernel
theorem d_M_init_1265 : decode b_M_init 1265 = .ok (.sipush 211, 3) := by decide +kernel
theorem d_M_init_1268 : decode b_M_init 1268 = .ok (.lconst 0, 1) := by decide +kernel
theorem d_M_init_1269 : decode b_M_init 1269 = .ok (.lastore, 1) := by decide +kernel
theorem d_M_init_1270 : decode b_M_init 1270 = .ok (.dup, 1) := by decide +kernel
theorem d_M_init_1271 : decode b_M_init 1271 = .ok (.sipush 212, 3) := by decide +kernel
theorem d_M_init_1274 : decode b_M_init 1274 = .ok (.ldc2_w 87, 3) := by decide +kernel
theorem d_M_init_1277 : decode b_M_init 1277 = .ok (.lastore, 1) := by decide +kernel
theorem d_M_init_1278 : decode b_M_init 1278 = .ok (.dup, 1) := by decide +kernel
theorem d_M_init_1279 : decode b_M_init 1279 = .ok (.sipush 213, 3) := by decide +kernel
theorem d_M_init_1282 : decode b_M_init 1282 = .ok (.ldc2_w 127, 3) := by decide +kernel
theorem d_M_init_1285 : decode b_M_init 1285 = .ok (.lastore, 1) := by decide +kernel
theorem d_M_init_1286 : decode b_M_init 1286 = .ok (.dup, 1) := by decide +kernel
theorem d_M_init_1287 : decode b_M_init 1287 = .ok (.sipush 214, 3) := by decide +kernel
theorem d_M_init_1290 : decode b_M_init 1290 = .ok (.ldc2_w 129, 3) := by decide +kernel
theorem d_M_init_1293 : decode b_M_init 1293 = .ok (.lastore, 1) := by decide +kernel
theorem d_M_init_1294 : decode b_M_init 1294 = .ok (.dup, 1) := by decide +kernel
theorem d_M_init_1295 : decode b_M_init 1295 = .ok (.sipush 215, 3) := by decide +kernel
theorem d_M_init_1298 : decode b_M_init 1298 = .ok (.ldc2_w 131, 3) := by decide +kernel
theorem d_M_init_1301 : decode b_M_init 1301 = .ok (.lastore, 1) := by decide +kernel
theorem d_M_init_1302 : decode b_M_init 1302 = .ok (.dup, 1) := by decide +kernel
theorem d_M_init_1303 : decode b_M_init 1303 = .ok (.sipush 216, 3) := by decide +kernel
theorem d_M_init_1306 : decode b_M_init 1306 = .ok (.ldc2_w 133, 3) := by decide +kernel
theorem d_M_init_1309 : decode b_M_init 1309 = .ok (.lastore, 1) := by decide +kernel
theorem d_M_init_1310 : decode b_M_init 1310 = .ok (.dup, 1) := by decide +kernel
theorem d_M_init_1311 : decode b_M_init 1311 = .ok (.sipush 217, 3) := by decide +kernel
theorem d_M_init_1314 : decode b_M_init 1314 = .ok (.lconst 0, 1) := by decide +kernel
theorem d_M_init_1315 : decode b_M_init 1315 = .ok (.lastore, 1) := by decide +kernel
theorem d_M_init_1316 : decode b_M_init 1316 = .ok (.dup, 1) := by decide +kernel
theorem d_M_init_1317 : decode b_M_init 1317 = .ok (.sipush 218, 3) := by decide +kernel
theorem d_M_init_1320 : decode b_M_init 1320 = .ok (.lconst 0, 1) := by decide +kernel
theorem d_M_init_1321 : decode b_M_init 1321 = .ok (.lastore, 1) := by decide +kernel
theorem d_M_init_1322 : decode b_M_init 1322 = .ok (.dup, 1) := by decide +kernel
theorem d_M_init_1323 : decode b_M_init 1323 = .ok (.sipush 219, 3) := by decide +kernel
theorem d_M_init_1326 : decode b_M_init 1326 = .ok (.lconst 0, 1) := by decide +kernel
theorem d_M_init_1327 : decode b_M_init 1327 = .ok (.lastore, 1) := by decide +kernel
theorem d_M_init_1328 : decode b_M_init 1328 = .ok (.putfield 135, 3) := by decide +kernel
theorem d_M_init_1331 : decode b_M_init 1331 = .ok (.aload_n 0, 1) := by decide +kernel
theorem d_M_init_1332 : decode b_M_init 1332 = .ok (.bipush 55, 2) := by decide +kernel
theorem d_M_init_1334 : decode b_M_init 1334 = .ok (.newarray .int, 2) := by decide +kernel
theorem d_M_init_1336 : decode b_M_init 1336 = .ok (.dup, 1) := by decide +kernel
theorem d_M_init_1337 : decode b_M_init 1337 = .ok (.iconst 0, 1) := by decide +kernel
theorem d_M_init_1338 : decode b_M_init 1338 = .ok (.bipush 7, 2) := by decide +kernel
theorem d_M_init_1340 : decode b_M_init 1340 = .ok (.iastore, 1) := by decide +kernel
theorem d_M_init_1341 : decode b_M_init 1341 = .ok (.dup, 1) := by decide +kernel
theorem d_M_init_1342 : decode b_M_init 1342 = .ok (.iconst 1, 1) := by decide +kernel
theorem d_M_init_1343 : decode b_M_init 1343 = .ok (.iconst 2, 1) := by decide +kernel
theorem d_M_init_1344 : decode b_M_init 1344 = .ok (.iastore, 1) := by decide +kernel
theorem d_M_init_1345 : decode b_M_init 1345 = .ok (.dup, 1) := by decide +kernel
theorem d_M_init_1346 : decode b_M_init 1346 = .ok (.iconst 2, 1) := by decide +kernel
theorem d_M_init_1347 : decode b_M_init 1347 = .ok (.iconst 5, 1) := by decide +kernel
theorem d_M_init_1348 : decode b_M_init 1348 = .ok (.iastore, 1) := by decide +kernel
theorem d_M_init_1349 : decode b_M_init 1349 = .ok (.dup, 1) := by decide +kernel
theorem d_M_init_1350 : decode b_M_init 1350 = .ok (.iconst 3, 1) := by decide +kernel
theorem d_M_init_1351 : decode b_M_init 1351 = .ok (.iconst 4, 1) := by decide +kernel
theorem d_M_init_1352 : decode b_M_init 1352 = .ok (.iastore, 1) := by decide +kernel
theorem d_M_init_1353 : decode b_M_init 1353 = .ok (.dup, 1) := by decide +kernel
theorem d_M_init_1354 : decode b_M_init 1354 = .ok (.iconst 4, 1) := by decide +kernel
theorem d_M_init_1355 : decode b_M_init 1355 = .ok (.iconst 4, 1) := by decide +kernel
theorem d_M_init_1356 : decode b_M_init 1356 = .ok (.iastore, 1) := by decide +kernel
theorem d_M_init_1357 : decode b_M_init 1357 = .ok (.dup, 1) := by decide +kernel
theorem d_M_init_1358 : decode b_M_init 1358 = .ok (.iconst 5, 1) := by decide +kernel
theorem d_M_init_1359 : decode b_M_init 1359 = .ok (.bipush 7, 2) := by decide +kernel
theorem d_M_init_1361 : decode b_M_init 1361 = .ok (.iastore, 1) := by decide +kernel
theorem d_M_init_1362 : decode b_M_init 1362 = .ok (.dup, 1) := by decide +kernel
theorem d_M_init_1363 : decode b_M_init 1363 = .ok (.bipush 6, 2) := by decide +kernel
theorem d_M_init_1365 : decode b_M_init 1365 = .ok (.iconst 4, 1) := by decide +kernel
theorem d_M_init_1366 : decode b_M_init 1366 = .ok (.iastore, 1) := by decide +kernel
theorem d_M_init_1367 : decode b_M_init 1367 = .ok (.dup, 1) := by decide +kernel
theorem d_M_init_1368 : decode b_M_init 1368 = .ok (.bipush 7, 2) := by decide +kernel
theorem d_M_init_1370 : decode b_M_init 1370 = .ok (.bipush 8, 2) := by decide +kernel
theorem d_M_init_1372 : decode b_M_init 1372 = .ok (.iastore, 1) := by decide +kernel
theorem d_M_init_1373 : decode b_M_init 1373 = .ok (.dup, 1) := by decide +kernel
theorem d_M_init_1374 : decode b_M_init 1374 = .ok (.bipush 8, 2) := by decide +kernel
theorem d_M_init_1376 : decode b_M_init 1376 = .ok (.bipush 8, 2) := by decide +kernel
theorem d_M_init_1378 : decode b_M_init 1378 = .ok (.iastore, 1) := by decide +kernel
theorem d_M_init_1379 : decode b_M_init 1379 = .ok (.dup, 1) := by decide +kernel
theorem d_M_init_1380 : decode b_M_init 1380 = .ok (.bipush 9, 2) := by decide +kernel
theorem d_M_init_1382 : decode b_M_init 1382 = .ok (.bipush 6, 2) := by decide +kernel
theorem d_M_init_1384 : decode b_M_init 1384 = .ok (.iastore, 1) := by decide +kernel
theorem d_M_init_1385 : decode b_M_init 1385 = .ok (.dup, 1) := by decide +kernel
theorem d_M_init_1386 : decode b_M_init 1386 = .ok (.bipush 10, 2) := by decide +kernel
theorem d_M_init_1388 : decode b_M_init 1388 = .ok (.bipush 7, 2) := by decide +kernel
theorem d_M_init_1390 : decode b_M_init 1390 = .ok (.iastore, 1) := by decide +kernel
theorem d_M_init_1391 : decode b_M_init 1391 = .ok (.dup, 1) := by decide +kernel
theorem d_M_init_1392 : decode b_M_init 1392 = .ok (.bipush 11, 2) := by decide +kernel
theorem d_M_init_1394 : decode b_M_init 1394 = .ok (.bipush 7, 2) := by decide +kernel
theorem d_M_init_1396 : decode b_M_init 1396 = .ok (.iastore, 1) := by decide +kernel
theorem d_M_init_1397 : decode b_M_init 1397 = .ok (.dup, 1) := by decide +kernel
theorem d_M_init_1398 : decode b_M_init 1398 = .ok (.bipush 12, 2) := by decide +kernel
theorem d_M_init_1400 : decode b_M_init 1400 = .ok (.bipush 10, 2) := by decide +kernel
theorem d_M_init_1402 : decode b_M_init 1402 = .ok (.iastore, 1) := by decide +kernel
theorem d_M_init_1403 : decode b_M_init 1403 = .ok (.dup, 1) := by decide +kernel
theorem d_M_init_1404 : decode b_M_init 1404 = .ok (.bipush 13, 2) := by decide +kernel
theorem d_M_init_1406 : decode b_M_init 1406 = .ok (.bipush 8, 2) := by decide +kernel
theorem d_M_init_1408 : decode b_M_init 1408 = .ok (.iastore, 1) := by decide +kernel
theorem d_M_init_1409 : decode b_M_init 1409 = .ok (.dup, 1) := by decide +kernel
theorem d_M_init_1410 : decode b_M_init 1410 = .ok (.bipush 14, 2) := by decide +kernel
theorem d_M_init_1412 : decode b_M_init 1412 = .ok (.bipush 6, 2) := by decide +kernel
theorem d_M_init_1414 : decode b_M_init 1414 = .ok (.iastore, 1) := by decide +kernel
theorem d_M_init_1415 : decode b_M_init 1415 = .ok (.dup, 1) := by decide +kernel
theorem d_M_init_1416 : decode b_M_init 1416 = .ok (.bipush 15, 2) := by decide +kernel
theorem d_M_init_1418 : decode b_M_init 1418 = .ok (.bipush 7, 2) := by decide +kernel
theorem d_M_init_1420 : decode b_M_init 1420 = .ok (.iastore, 1) := by decide +kernel
theorem d_M_init_1421 : decode b_M_init 1421 = .ok (.dup, 1) := by decide +kernel
theorem d_M_init_1422 : decode b_M_init 1422 = .ok (.bipush 16, 2) := by decide +kernel
theorem d_M_init_1424 : decode b_M_init 1424 = .ok (.bipush 8, 2) := by decide +kernel
theorem d_M_init_1426 : decode b_M_init 1426 = .ok (.iastore, 1) := by decide +kernel
theorem d_M_init_1427 : decode b_M_init 1427 = .ok (.dup, 1) := by decide +kernel
theorem d_M_init_1428 : decode b_M_init 1428 = .ok (.bipush 17, 2) := by decide +kernel
theorem d_M_init_1430 : decode b_M_init 1430 = .ok (.bipush 7, 2) := by decide +kernel
theorem d_M_init_1432 : decode b_M_init 1432 = .ok (.iastore, 1) := by decide +kernel
theorem d_M_init_1433 : decode b_M_init 1433 = .ok (.dup, 1) := by decide +kernel
theorem d_M_init_1434 : decode b_M_init 1434 = .ok (.bipush 18, 2) := by decide +kernel
theorem d_M_init_1436 : decode b_M_init 1436 = .ok (.bipush 6, 2) := by decide +kernel
theorem d_M_init_1438 : decode b_M_init 1438 = .ok (.iastore, 1) := by decide +kernel
theorem d_M_init_1439 : decode b_M_init 1439 = .ok (.dup, 1) := by decide +kernel
theorem d_M_init_1440 : decode b_M_init 1440 = .ok (.bipush 19, 2) := by decide +kernel
theorem d_M_init_1442 : decode b_M_init 1442 = .ok (.iconst 4, 1) := by decide +kernel
theorem d_M_init_1443 : decode b_M_init 1443 = .ok (.iastore, 1) := by decide +kernel
theorem d_M_init_1444 : decode b_M_init 1444 = .ok (.dup, 1) := by decide +kernel
theorem d_M_init_1445 : decode b_M_init 1445 = .ok (.bipush 20, 2) := by decide +kernel
theorem d_M_init_1447 : decode b_M_init 1447 = .ok (.iconst 5, 1) := by decide +kernel
theorem d_M_init_1448 : decode b_M_init 1448 = .ok (.iastore, 1) := by decide +kernel
theorem d_M_init_1449 : decode b_M_init 1449 = .ok (.dup, 1) := by decide +kernel
theorem d_M_init_1450 : decode b_M_init 1450 = .ok (.bipush 21, 2) := by decide +kernel
theorem d_M_init_1452 : decode b_M_init 1452 = .ok (.iconst 5, 1) := by decide +kernel
theorem d_M_init_1453 : decode b_M_init 1453 = .ok (.iastore, 1) := by decide +kernel
theorem d_M_init_1454 : decode b_M_init 1454 = .ok (.dup, 1) := by decide +kernel
theorem d_M_init_1455 : decode b_M_init 1455 = .ok (.bipush 22, 2) := by decide +kernel
theorem d_M_init_1457 : decode b_M_init 1457 = .ok (.iconst 3, 1) := by decide +kernel
theorem d_M_init_1458 : decode b_M_init 1458 = .ok (.iastore, 1) := by decide +kernel
theorem d_M_init_1459 : decode b_M_init 1459 = .ok (.dup, 1) := by decide +kernel
theorem d_M_init_1460 : decode b_M_init 1460 = .ok (.bipush 23, 2) := by decide +kernel
theorem d_M_init_1462 : decode b_M_init 1462 = .ok (.iconst 4, 1) := by decide +kernel
theorem d_M_init_1463 : decode b_M_init 1463 = .ok (.iastore, 1) := by decide +kernel
theorem d_M_init_1464 : decode b_M_init 1464 = .ok (.dup, 1) := by decide +kernel
theorem d_M_init_1465 : decode b_M_init 1465 = .ok (.bipush 24, 2) := by decide +kernel
theorem d_M_init_1467 : decode b_M_init 1467 = .ok (.iconst 5, 1) := by decide +kernel
theorem d_M_init_1468 : decode b_M_init 1468 = .ok (.iastore, 1) := by decide +kernel
theorem d_M_init_1469 : decode b_M_init 1469 = .ok (.dup, 1) := by decide +kernel
theorem d_M_init_1470 : decode b_M_init 1470 = .ok (.bipush 25, 2) := by decide +kernel
theorem d_M_init_1472 : decode b_M_init 1472 = .ok (.iconst 5, 1) := by decide +kernel
theorem d_M_init_1473 : decode b_M_init 1473 = .ok (.iastore, 1) := by decide +kernel
theorem d_M_init_1474 : decode b_M_init 1474 = .ok (.dup, 1) := by decide +kernel
theorem d_M_init_1475 : decode b_M_init 1475 = .ok (.bipush 26, 2) := by decide +kernel
theorem d_M_init_1477 : decode b_M_init 1477 = .ok (.iconst 4, 1) := by decide +kernel
theorem d_M_init_1478 : decode b_M_init 1478 = .ok (.iastore, 1) := by decide +kernel
theorem d_M_init_1479 : decode b_M_init 1479 = .ok (.dup, 1) := by decide +kernel
theorem d_M_init_1480 : decode b_M_init 1480 = .ok (.bipush 27, 2) := by decide +kernel
theorem d_M_init_1482 : decode b_M_init 1482 = .ok (.iconst 4, 1) := by decide +kernel
theorem d_M_init_1483 : decode b_M_init 1483 = .ok (.iastore, 1) := by decide +kernel
theorem d_M_init_1484 : decode b_M_init 1484 = .ok (.dup, 1) := by decide +kernel
theorem d_M_init_1485 : decode b_M_init 1485 = .ok (.bipush 28, 2) := by decide +kernel
theorem d_M_init_1487 : decode b_M_init 1487 = .ok (.bipush 7, 2) := by decide +kernel
theorem d_M_init_1489 : decode b_M_init 1489 = .ok (.iastore, 1) := by decide +kernel
theorem d_M_init_1490 : decode b_M_init 1490 = .ok (.dup, 1) := by decide +kernel
theorem d_M_init_1491 : decode b_M_init 1491 = .ok (.bipush 29, 2) := by decide +kernel
theorem d_M_init_1493 : decode b_M_init 1493 = .ok (.bipush 9, 2) := by decide +kernel
theorem d_M_init_1495 : decode b_M_init 1495 = .ok (.iastore, 1) := by decide +kernel
theorem d_M_init_1496 : decode b_M_init 1496 = .ok (.dup, 1) := by decide +kernel
theorem d_M_init_1497 : decode b_M_init 1497 = .ok (.bipush 30, 2) := by decide +kernel
theorem d_M_init_1499 : decode b_M_init 1499 = .ok (.bipush 6, 2) := by decide +kernel
theorem d_M_init_1501 : decode b_M_init 1501 = .ok (.iastore, 1) := by decide +kernel
theorem d_M_init_1502 : decode b_M_init 1502 = .ok (.dup, 1) := by decide +kernel
theorem d_M_init_1503 : decode b_M_init 1503 = .ok (.bipush 31, 2) := by decide +kernel
theorem d_M_init_1505 : decode b_M_init 1505 = .ok (.iconst 4, 1) := by decide +kernel
theorem d_M_init_1506 : decode b_M_init 1506 = .ok (.iastore, 1) := by decide +kernel
theorem d_M_init_1507 : decode b_M_init 1507 = .ok (.dup, 1) := by decide +kernel
theorem d_M_init_1508 : decode b_M_init 1508 = .ok (.bipush 32, 2) := by decide +kernel
theorem d_M_init_1510 : decode b_M_init 1510 = .ok (.iconst 5, 1) := by decide +kernel
theorem d_M_init_1511 : decode b_M_init 1511 = .ok (.iastore, 1) := by decide +kernel
theorem d_M_init_1512 : decode b_M_init 1512 = .ok (.dup, 1) := by decide +kernel
theorem d_M_init_1513 : decode b_M_init 1513 = .ok (.bipush 33, 2) := by decide +kernel
theorem d_M_init_1515 : decode b_M_init 1515 = .ok (.iconst 2, 1) := by decide +kernel
theorem d_M_init_1516 : decode b_M_init 1516 = .ok (.iastore, 1) := by decide +kernel
theorem d_M_init_1517 : decode b_M_init 1517 = .ok (.dup, 1) := by decide +kernel
theorem d_M_init_1518 : decode b_M_init 1518 = .ok (.bipush 34, 2) := by decide +kernel
theorem d_M_init_1520 : decode b_M_init 1520 = .ok (.bipush 8, 2) := by decide +kernel
theorem d_M_init_1522 : decode b_M_init 1522 = .ok (.iastore, 1) := by decide +kernel
theorem d_M_init_1523 : decode b_M_init 1523 = .ok (.dup, 1) := by decide +kernel
theorem d_M_init_1524 : decode b_M_init 1524 = .ok (.bipush 35, 2) := by decide +kernel
theorem d_M_init_1526 : decode b_M_init 1526 = .ok (.bipush 7, 2) := by decide +kernel
theorem d_M_init_1528 : decode b_M_init 1528 = .ok (.iastore, 1) := by decide +kernel
theorem d_M_init_1529 : decode b_M_init 1529 = .ok (.dup, 1) := by decide +kernel
theorem d_M_init_1530 : decode b_M_init 1530 = .ok (.bipush 36, 2) := by decide +kernel
theorem d_M_init_1532 : decode b_M_init 1532 = .ok (.iconst 5, 1) := by decide +kernel
theorem d_M_init_1533 : decode b_M_init 1533 = .ok (.iastore, 1) := by decide +kernel
theorem d_M_init_1534 : decode b_M_init 1534 = .ok (.dup, 1) := by decide +kernel
theorem d_M_init_1535 : decode b_M_init 1535 = .ok (.bipush 37, 2) := by decide +kernel
theorem d_M_init_1537 : decode b_M_init 1537 = .ok (.iconst 5, 1) := by decide +kernel
theorem d_M_init_1538 : decode b_M_init 1538 = .ok (.iastore, 1) := by decide +kernel
theorem d_M_init_1539 : decode b_M_init 1539 = .ok (.dup, 1) := by decide +kernel
theorem d_M_init_1540 : decode b_M_init 1540 = .ok (.bipush 38, 2) := by decide +kernel
theorem d_M_init_1542 : decode b_M_init 1542 = .ok (.bipush 10, 2) := by decide +kernel
theorem d_M_init_1544 : decode b_M_init 1544 = .ok (.iastore, 1) := by decide +kernel
theorem d_M_init_1545 : decode b_M_init 1545 = .ok (.dup, 1) := by decide +kernel
theorem d_M_init_1546 : decode b_M_init 1546 = .ok (.bipush 39, 2) := by decide +kernel
theorem d_M_init_1548 : decode b_M_init 1548 = .ok (.iconst 3, 1) := by decide +kernel
theorem d_M_init_1549 : decode b_M_init 1549 = .ok (.iastore, 1) := by decide +kernel
theorem d_M_init_1550 : decode b_M_init 1550 = .ok (.dup, 1) := by decide +kernel
theorem d_M_init_1551 : decode b_M_init 1551 = .ok (.bipush 40, 2) := by decide +kernel
theorem d_M_init_1553 : decode b_M_init 1553 = .ok (.bipush 9, 2) := by decide +kernel
theorem d_M_init_1555 : decode b_M_init 1555 = .ok (.iastore, 1) := by decide +kernel
theorem d_M_init_1556 : decode b_M_init 1556 = .ok (.dup, 1) := by decide +kernel
theorem d_M_init_1557 : decode b_M_init 1557 = .ok (.bipush 41, 2) := by decide +kernel
theorem d_M_init_1559 : decode b_M_init 1559 = .ok (.bipush 6, 2) := by decide +kernel
theorem d_M_init_1561 : decode b_M_init 1561 = .ok (.iastore, 1) := by decide +kernel
theorem d_M_init_1562 : decode b_M_init 1562 = .ok (.dup, 1) := by decide +kernel
theorem d_M_init_1563 : decode b_M_init 1563 = .ok (.bipush 42, 2) := by decide +kernel
theorem d_M_init_1565 : decode b_M_init 1565 = .ok (.iconst 2, 1) := by decide +kernel
theorem d_M_init_1566 : decode b_M_init 1566 = .ok (.iastore, 1) := by decide +kernel
theorem d_M_init_1567 : decode b_M_init 1567 = .ok (.dup, 1) := by decide +kernel
theorem d_M_init_1568 : decode b_M_init 1568 = .ok (.bipush 43, 2) := by decide +kernel
theorem d_M_init_1570 : decode b_M_init 1570 = .ok (.iconst 2, 1) := by decide +kernel
theorem d_M_init_1571 : decode b_M_init 1571 = .ok (.iastore, 1) := by decide +kernel
theorem d_M_init_1572 : decode b_M_init 1572 = .ok (.dup, 1) := by decide +kernel
theorem d_M_init_1573 : decode b_M_init 1573 = .ok (.bipush 44, 2) := by decide +kernel
theorem d_M_init_1575 : decode b_M_init 1575 = .ok (.iconst 2, 1) := by decide +kernel
theorem d_M_init_1576 : decode b_M_init 1576 = .ok (.iastore, 1) := by decide +kernel
theorem d_M_init_1577 : decode b_M_init 1577 = .ok (.dup, 1) := by decide +kernel
theorem d_M_init_1578 : decode b_M_init 1578 = .ok (.bipush 45, 2) := by decide +kernel
theorem d_M_init_1580 : decode b_M_init 1580 = .ok (.iconst 2, 1) := by decide +kernel
theorem d_M_init_1581 : decode b_M_init 1581 = .ok (.iastore, 1) := by decide +kernel
theorem d_M_init_1582 : decode b_M_init 1582 = .ok (.dup, 1) := by decide +kernel
theorem d_M_init_1583 : decode b_M_init 1583 = .ok (.bipush 46, 2) := by decide +kernel
theorem d_M_init_1585 : decode b_M_init 1585 = .ok (.iconst 2, 1) := by decide +kernel
theorem d_M_init_1586 : decode b_M_init 1586 = .ok (.iastore, 1) := by decide +kernel
theorem d_M_init_1587 : decode b_M_init 1587 = .ok (.dup, 1) := by decide +kernel
theorem d_M_init_1588 : decode b_M_init 1588 = .ok (.bipush 47, 2) := by decide +kernel
theorem d_M_init_1590 : decode b_M_init 1590 = .ok (.iconst 2, 1) := by decide +kernel
theorem d_M_init_1591 : decode b_M_init 1591 = .ok (.iastore, 1) := by decide +kernel
theorem d_M_init_1592 : decode b_M_init 1592 = .ok (.dup, 1) := by decide +kernel
theorem d_M_init_1593 : decode b_M_init 1593 = .ok (.bipush 48, 2) := by decide +kernel
theorem d_M_init_1595 : decode b_M_init 1595 = .ok (.bipush 7, 2) := by decide +kernel
theorem d_M_init_1597 : decode b_M_init 1597 = .ok (.iastore, 1) := by decide +kernel
theorem d_M_init_1598 : decode b_M_init 1598 = .ok (.dup, 1) := by decide +kernel
theorem d_M_init_1599 : decode b_M_init 1599 = .ok (.bipush 49, 2) := by decide +kernel
theorem d_M_init_1601 : decode b_M_init 1601 = .ok (.bipush 15, 2) := by decide +kernel
theorem d_M_init_1603 : decode b_M_init 1603 = .ok (.iastore, 1) := by decide +kernel
theorem d_M_init_1604 : decode b_M_init 1604 = .ok (.dup, 1) := by decide +kernel
theorem d_M_init_1605 : decode b_M_init 1605 = .ok (.bipush 50, 2) := by decide +kernel
theorem d_M_init_1607 : decode b_M_init 1607 = .ok (.bipush 15, 2) := by decide +kernel
theorem d_M_init_1609 : decode b_M_init 1609 = .ok (.iastore, 1) := by decide +kernel
theorem d_M_init_1610 : decode b_M_init 1610 = .ok (.dup, 1) := by decide +kernel
theorem d_M_init_1611 : decode b_M_init 1611 = .ok (.bipush 51, 2) := by decide +kernel
theorem d_M_init_1613 : decode b_M_init 1613 = .ok (.bipush 10, 2) := by decide +kernel
theorem d_M_init_1615 : decode b_M_init 1615 = .ok (.iastore, 1) := by decide +kernel
theorem d_M_init_1616 : decode b_M_init 1616 = .ok (.dup, 1) := by decide +kernel
theorem d_M_init_1617 : decode b_M_init 1617 = .ok (.bipush 52, 2) := by decide +kernel
theorem d_M_init_1619 : decode b_M_init 1619 = .ok (.bipush 10, 2) := by decide +kernel
theorem d_M_init_1621 : decode b_M_init 1621 = .ok (.iastore, 1) := by decide +kernel
theorem d_M_init_1622 : decode b_M_init 1622 = .ok (.dup, 1) := by decide +kernel
theorem d_M_init_1623 : decode b_M_init 1623 = .ok (.bipush 53, 2) := by decide +kernel
theorem d_M_init_1625 : decode b_M_init 1625 = .ok (.bipush 26, 2) := by decide +kernel
theorem d_M_init_1627 : decode b_M_init 1627 = .ok (.iastore, 1) := by decide +kernel
theorem d_M_init_1628 : decode b_M_init 1628 = .ok (.dup, 1) := by decide +kernel
theorem d_M_init_1629 : decode b_M_init 1629 = .ok (.bipush 54, 2) := by decide +kernel
theorem d_M_init_1631 : decode b_M_init 1631 = .ok (.iconst 4, 1) := by decide +kernel
theorem d_M_init_1632 : decode b_M_init 1632 = .ok (.iastore, 1) := by decide +kernel
theorem d_M_init_1633 : decode b_M_init 1633 = .ok (.putfield 141, 3) := by decide +kernel
theorem d_M_init_1636 : decode b_M_init 1636 = .ok (.aload_n 0, 1) := by decide +kernel
theorem d_M_init_1637 : decode b_M_init 1637 = .ok (.sipush 400, 3) := by decide +kernel
theorem d_M_init_1640 : decode b_M_init 1640 = .ok (.newarray .int, 2) := by decide +kernel
theorem d_M_init_1642 : decode b_M_init 1642 = .ok (.putfield 145, 3) := by decide +kernel
theorem d_M_init_1645 : decode b_M_init 1645 = .ok (.aload_n 0, 1) := by decide +kernel
theorem d_M_init_1646 : decode b_M_init 1646 = .ok (.iconst 4, 1) := by decide +kernel
theorem d_M_init_1647 : decode b_M_init 1647 = .ok (.newarray .long, 2) := by decide +kernel
theorem d_M_init_1649 : decode b_M_init 1649 = .ok (.putfield 148, 3) := by decide +kernel
theorem d_M_init_1652 : decode b_M_init 1652 = .ok (.aload_n 0, 1) := by decide +kernel
theorem d_M_init_1653 : decode b_M_init 1653 = .ok (.sipush 1010, 3) := by decide +kernel
theorem d_M_init_1656 : decode b_M_init 1656 = .ok (.newarray .int, 2) := by decide +kernel
theorem d_M_init_1658 : decode b_M_init 1658 = .ok (.putfield 151, 3) := by decide +kernel
theorem d_M_init_1661 : decode b_M_init 1661 = .ok (.aload_n 0, 1) := by decide +kernel
theorem d_M_init_1662 : decode b_M_init 1662 = .ok (.iconst (-1), 1) := by decide +kernel
theorem d_M_init_1663 : decode b_M_init 1663 = .ok (.putfield 154, 3) := by decide +kernel
theorem d_M_init_1666 : decode b_M_init 1666 = .ok (.aload_n 0, 1) := by decide +kernel
theorem d_M_init_1667 : decode b_M_init 1667 = .ok (.bipush 80, 2) := by decide +kernel
theorem d_M_init_1669 : decode b_M_init 1669 = .ok (.newarray .int, 2) := by decide +kernel
theorem d_M_init_1671 : decode b_M_init 1671 = .ok (.putfield 158, 3) := by decide +kernel
theorem d_M_init_1674 : decode b_M_init 1674 = .ok (.return_, 1) := by decide +kernel
end
section
set_option maxHeartbeats 4000000 in
set_option maxRecDepth 100000 in
theorem c_M_init (l : Launch) (dC : Nat → ClassId) (dI : Nat → Nat → Nat) (k : Nat → Nat) (o : Nat) (sz : Nat) : Met l y_M_init (.code y_M_init b_M_init 1 none :: TT) ({ frames := 1, cells := 6, slots := 1769, locals := 12 }) (va_Pc [.ref o] (PX dC dI k [] [(o, .inr (4, [.null, .null, .null, .int 0, .int 0, .int 0, .int 0, .int 0, .null, .null, .int 0, .int 0, .int 0, .int 0, .int 0, .int 0, .int 0, .int 0, .null]))] sz)) (va_Qv (fun u : ((Nat → Nat) × (Nat → ClassId)) × ((Nat → Int64) × (Nat → Int32)) => u.1.1 0 = o) (fun u t => BX dC dI (TM u.1.2) (va_A [(o, .inr (4, [.null, .null, .null, .int 0, .int 0, .int 0, .int 0, .int 0, .null, .null, .int 0, .int 0, .int 0, .int 0, .int 0, .int 0, .int 0, .int 0, .null]))] sz) (ME u.1.1 u.1.2 0 0 0 0 0 (-1) 0 0 0 0 0 0 0 u.2.1 u.2.2 (fun _ => 0) (fun _ => 0) (fun _ => 0) (fun _ => 0)) t) (va_A [(o, .inr (4, [.null, .null, .null, .int 0, .int 0, .int 0, .int 0, .int 0, .null, .null, .int 0, .int 0, .int 0, .int 0, .int 0, .int 0, .int 0, .int 0, .null]))] sz)) 6 1769 (va_A [(o, .inr (4, [.null, .null, .null, .int 0, .int 0, .int 0, .int 0, .int 0, .null, .null, .int 0, .int 0, .int 0, .int 0, .int 0, .int 0, .int 0, .int 0, .null]))] sz) := by
  refine Met.ofW (cc := b_M_init) (maxL := 1) (ret := none) (by decide) rfl ?_
  intro p e s m args below meth c s₁ B hml hv
  obtain ⟨rfl, hsz, hE, hP, hK, hD0⟩ := hv
  have hx := B.exec
  have hb := B.bytes
  have hr := B.returns
  have ht : ∀ w ∈ TT, w.before _ s = true := fun w hw => atoms_spec (ws := .code y_M_init b_M_init 1 none :: TT) B.pre w (List.mem_cons_of_mem _ hw)
  have hown : s.vm.findClass "SieveDeskModel" = some m.cls := findClass_of_methodNamed B.named
  have hlocks := B.notSynchronized
  have hin : meth.name = "<init>" := (name_of_methodNamed B.named B.method).1
  subst hsz
  have hD := hD0.self (sz := s.heap.size)
  generalize hAe : va_A [(o, .inr (4, [.null, .null, .null, .int 0, .int 0, .int 0, .int 0, .int 0, .null, .null, .int 0, .int 0, .int 0, .int 0, .int 0, .int 0, .int 0, .int 0, .null]))] s.heap.size = A at hE hD ⊢
  have hA : ∀ q : Nat, s.heap.size ≤ q → A q := fun q h9 => by rw [← hAe]; exact Or.inr h9
  have hS : va_S A s.heap s.heap [] := va_S.rf
  have hl := lv_entry ([.ref o]) (n := 1) (Nat.le_of_ble_eq_true rfl)
  rw [lg_entry_eq]
  generalize (lg_sl ([.ref o]) ++ List.replicate (1 - (lg_sl ([.ref o])).length) Slot.unset).toArray = ls at hl ⊢
  have hl : lv_has ls 1 [(0, .ref o)] := hl
  refine lv_aload_n hx hb d_M_init_0 rfl (lv_at hl 0 rfl) ?_
  refine W.objInit hx hb hown (ht _ k_562) (ht _ k_94) (ht _ k_95) rfl (by rw [hml]; exact hl.1) rfl d_M_init_1 (Nat.le_of_ble_eq_true rfl) (Nat.le_of_ble_eq_true rfl) ?_
  refine W.eq (g2 := F0 m 4 ls []) rfl ?_
  refine lv_aload_n hx hb d_M_init_4 rfl (lv_at hl 0 rfl) ?_
  refine lv_sipush (v := 220) hx hb d_M_init_5 (by decide) ?_
  refine va_newa (atype := .long) (ty := .long) (N' := 220) (a0 := (220, .inr (.inl (fun _ => 0)))) hx hb (ht _ k_685) rfl hK hP hD hS hA (fun _ => rfl) (by decide) (by decide) (by decide) (Nat.le_of_ble_eq_true rfl) (Nat.le_of_ble_eq_true rfl) d_M_init_8 (fun q_1 g_2 H hK hP hD hS => ?_)
  have hP : va_P (dC, dI) cls [(o, .inr (4, [.null, .null, .null, .int 0, .int 0, .int 0, .int 0, .int 0, .null, .null, .int 0, .int 0, .int 0, .int 0, .int 0, .int 0, .int 0, .int 0, .null])), (q_1, .inl (g_2, 220, .inr (.inl (fun _ => 0))))] H := hP
  have hD : va_D A [(o, .inr (4, [.null, .null, .null, .int 0, .int 0, .int 0, .int 0, .int 0, .null, .null, .int 0, .int 0, .int 0, .int 0, .int 0, .int 0, .int 0, .int 0, .null])), (q_1, .inl (g_2, 220, .inr (.inl (fun _ => 0))))] := hD
  have hK : va_K (dC, dI) cls [(g_2, .long)] s := hK
  refine W.widen (k := 1) (n := 220) (by decide) (by decide) ?_
  refine lv_dup hx hb d_M_init_10 rfl ?_
  refine lv_iconst (v := 0) hx hb d_M_init_11 (by decide) ?_
  refine lv_ldc2 (v := 8243119442065777920) hx hb hown (ht _ k_563) d_M_init_12 ?_
  refine va_lastG hx hb hK hP hD hS 1 0 rfl rfl (by unfold vp_in; decide) d_M_init_15 (fun f_3 H locs hP hD hS => ?_)
  have hP : va_P (dC, dI) cls [(o, .inr (4, [.null, .null, .null, .int 0, .int 0, .int 0, .int 0, .int 0, .null, .null, .int 0, .int 0, .int 0, .int 0, .int 0, .int 0, .int 0, .int 0, .null])), (q_1, .inl (g_2, 220, .inr (.inl f_3)))] H := hP
  have hD : va_D A [(o, .inr (4, [.null, .null, .null, .int 0, .int 0, .int 0, .int 0, .int 0, .null, .null, .int 0, .int 0, .int 0, .int 0, .int 0, .int 0, .int 0, .int 0, .null])), (q_1, .inl (g_2, 220, .inr (.inl f_3)))] := hD
  refine lv_dup hx hb d_M_init_16 rfl ?_
  refine lv_iconst (v := 1) hx hb d_M_init_17 (by decide) ?_
  refine lv_lconst (v := 0) hx hb d_M_init_18 (by decide) ?_
  refine va_lastG hx hb hK hP hD hS 1 0 rfl rfl (by unfold vp_in; decide) d_M_init_19 (fun f_4 H locs hP hD hS => ?_)
  have hP : va_P (dC, dI) cls [(o, .inr (4, [.null, .null, .null, .int 0, .int 0, .int 0, .int 0, .int 0, .null, .null, .int 0, .int 0, .int 0, .int 0, .int 0, .int 0, .int 0, .int 0, .null])), (q_1, .inl (g_2, 220, .inr (.inl f_4)))] H := hP
  have hD : va_D A [(o, .inr (4, [.null, .null, .null, .int 0, .int 0, .int 0, .int 0, .int 0, .null, .null, .int 0, .int 0, .int 0, .int 0, .int 0, .int 0, .int 0, .int 0, .null])), (q_1, .inl (g_2, 220, .inr (.inl f_4)))] := hD
  refine lv_dup hx hb d_M_init_20 rfl ?_
  refine lv_iconst (v := 2) hx hb d_M_init_21 (by decide) ?_
  refine lv_lconst (v := 0) hx hb d_M_init_22 (by decide) ?_
  refine va_lastG hx hb hK hP hD hS 1 0 rfl rfl (by unfold vp_in; decide) d_M_init_23 (fun f_5 H locs hP hD hS => ?_)
  have hP : va_P (dC, dI) cls [(o, .inr (4, [.null, .null, .null, .int 0, .int 0, .int 0, .int 0, .int 0, .null, .null, .int 0, .int 0, .int 0, .int 0, .int 0, .int 0, .int 0, .int 0, .null])), (q_1, .inl (g_2, 220, .inr (.inl f_5)))] H := hP
  have hD : va_D A [(o, .inr (4, [.null, .null, .null, .int 0, .int 0, .int 0, .int 0, .int 0, .null, .null, .int 0, .int 0, .int 0, .int 0, .int 0, .int 0, .int 0, .int 0, .null])), (q_1, .inl (g_2, 220, .inr (.inl f_5)))] := hD
  refine lv_dup hx hb d_M_init_24 rfl ?_
  refine lv_iconst (v := 3) hx hb d_M_init_25 (by decide) ?_
  refine lv_lconst (v := 0) hx hb d_M_init_26 (by decide) ?_
  refine va_lastG hx hb hK hP hD hS 1 0 rfl rfl (by unfold vp_in; decide) d_M_init_27 (fun f_6 H locs hP hD hS => ?_)
  have hP : va_P (dC, dI) cls [(o, .inr (4, [.null, .null, .null, .int 0, .int 0, .int 0, .int 0, .int 0, .null, .null, .int 0, .int 0, .int 0, .int 0, .int 0, .int 0, .int 0, .int 0, .null])), (q_1, .inl (g_2, 220, .inr (.inl f_6)))] H := hP
  have hD : va_D A [(o, .inr (4, [.null, .null, .null, .int 0, .int 0, .int 0, .int 0, .int 0, .null, .null, .int 0, .int 0, .int 0, .int 0, .int 0, .int 0, .int 0, .int 0, .null])), (q_1, .inl (g_2, 220, .inr (.inl f_6)))] := hD
  refine lv_dup hx hb d_M_init_28 rfl ?_
  refine lv_iconst (v := 4) hx hb d_M_init_29 (by decide) ?_
  refine lv_ldc2 (v := 7594757821606920192) hx hb hown (ht _ k_564) d_M_init_30 ?_
  refine va_lastG hx hb hK hP hD hS 1 0 rfl rfl (by unfold vp_in; decide) d_M_init_33 (fun f_7 H locs hP hD hS => ?_)
  have hP : va_P (dC, dI) cls [(o, .inr (4, [.null, .null, .null, .int 0, .int 0, .int 0, .int 0, .int 0, .null, .null, .int 0, .int 0, .int 0, .int 0, .int 0, .int 0, .int 0, .int 0, .null])), (q_1, .inl (g_2, 220, .inr (.inl f_7)))] H := hP
  have hD : va_D A [(o, .inr (4, [.null, .null, .null, .int 0, .int 0, .int 0, .int 0, .int 0, .null, .null, .int 0, .int 0, .int 0, .int 0, .int 0, .int 0, .int 0, .int 0, .null])), (q_1, .inl (g_2, 220, .inr (.inl f_7)))] := hD
  refine lv_dup hx hb d_M_init_34 rfl ?_
  refine lv_iconst (v := 5) hx hb d_M_init_35 (by decide) ?_
  refine lv_lconst (v := 0) hx hb d_M_init_36 (by decide) ?_
  refine va_lastG hx hb hK hP hD hS 1 0 rfl rfl (by unfold vp_in; decide) d_M_init_37 (fun f_8 H locs hP hD hS => ?_)
  have hP : va_P (dC, dI) cls [(o, .inr (4, [.null, .null, .null, .int 0, .int 0, .int 0, .int 0, .int 0, .null, .null, .int 0, .int 0, .int 0, .int 0, .int 0, .int 0, .int 0, .int 0, .null])), (q_1, .inl (g_2, 220, .inr (.inl f_8)))] H := hP
  have hD : va_D A [(o, .inr (4, [.null, .null, .null, .int 0, .int 0, .int 0, .int 0, .int 0, .null, .null, .int 0, .int 0, .int 0, .int 0, .int 0, .int 0, .int 0, .int 0, .null])), (q_1, .inl (g_2, 220, .inr (.inl f_8)))] := hD
  refine lv_dup hx hb d_M_init_38 rfl ?_
  refine lv_bipush (v := 6) hx hb d_M_init_39 (by decide) ?_
  refine lv_lconst (v := 0) hx hb d_M_init_41 (by decide) ?_
  refine va_lastG hx hb hK hP hD hS 1 0 rfl rfl (by unfold vp_in; decide) d_M_init_42 (fun f_9 H locs hP hD hS => ?_)
  have hP : va_P (dC, dI) cls [(o, .inr (4, [.null, .null, .null, .int 0, .int 0, .int 0, .int 0, .int 0, .null, .null, .int 0, .int 0, .int 0, .int 0, .int 0, .int 0, .int 0, .int 0, .null])), (q_1, .inl (g_2, 220, .inr (.inl f_9)))] H := hP
  have hD : va_D A [(o, .inr (4, [.null, .null, .null, .int 0, .int 0, .int 0, .int 0, .int 0, .null, .null, .int 0, .int 0, .int 0, .int 0, .int 0, .int 0, .int 0, .int 0, .null])), (q_1, .inl (g_2, 220, .inr (.inl f_9)))] := hD
  refine lv_dup hx hb d_M_init_43 rfl ?_
  refine lv_bipush (v := 7) hx hb d_M_init_44 (by decide) ?_
  refine lv_lconst (v := 0) hx hb d_M_init_46 (by decide) ?_
  refine va_lastG hx hb hK hP hD hS 1 0 rfl rfl (by unfold vp_in; decide) d_M_init_47 (fun f_10 H locs hP hD hS => ?_)
  have hP : va_P (dC, dI) cls [(o, .inr (4, [.null, .null, .null, .int 0, .int 0, .int 0, .int 0, .int 0, .null, .null, .int 0, .int 0, .int 0, .int 0, .int 0, .int 0, .int 0, .int 0, .null])), (q_1, .inl (g_2, 220, .inr (.inl f_10)))] H := hP
  have hD : va_D A [(o, .inr (4, [.null, .null, .null, .int 0, .int 0, .int 0, .int 0, .int 0, .null, .null, .int 0, .int 0, .int 0, .int 0, .int 0, .int 0, .int 0, .int 0, .null])), (q_1, .inl (g_2, 220, .inr (.inl f_10)))] := hD
  refine lv_dup hx hb d_M_init_48 rfl ?_
  refine lv_bipush (v := 8) hx hb d_M_init_49 (by decide) ?_
  refine lv_ldc2 (v := 7308343191835508736) hx hb hown (ht _ k_565) d_M_init_51 ?_
  refine va_lastG hx hb hK hP hD hS 1 0 rfl rfl (by unfold vp_in; decide) d_M_init_54 (fun f_11 H locs hP hD hS => ?_)
  have hP : va_P (dC, dI) cls [(o, .inr (4, [.null, .null, .null, .int 0, .int 0, .int 0, .int 0, .int 0, .null, .null, .int 0, .int 0, .int 0, .int 0, .int 0, .int 0, .int 0, .int 0, .null])), (q_1, .inl (g_2, 220, .inr (.inl f_11)))] H := hP
  have hD : va_D A [(o, .inr (4, [.null, .null, .null, .int 0, .int 0, .int 0, .int 0, .int 0, .null, .null, .int 0, .int 0, .int 0, .int 0, .int 0, .int 0, .int 0, .int 0, .null])), (q_1, .inl (g_2, 220, .inr (.inl f_11)))] := hD
  refine lv_dup hx hb d_M_init_55 rfl ?_
  refine lv_bipush (v := 9) hx hb d_M_init_56 (by decide) ?_
  refine lv_lconst (v := 0) hx hb d_M_init_58 (by decide) ?_
  refine va_lastG hx hb hK hP hD hS 1 0 rfl rfl (by unfold vp_in; decide) d_M_init_59 (fun f_12 H locs hP hD hS => ?_)
  have hP : va_P (dC, dI) cls [(o, .inr (4, [.null, .null, .null, .int 0, .int 0, .int 0, .int 0, .int 0, .null, .null, .int 0, .int 0, .int 0, .int 0, .int 0, .int 0, .int 0, .int 0, .null])), (q_1, .inl (g_2, 220, .inr (.inl f_12)))] H := hP
  have hD : va_D A [(o, .inr (4, [.null, .null, .null, .int 0, .int 0, .int 0, .int 0, .int 0, .null, .null, .int 0, .int 0, .int 0, .int 0, .int 0, .int 0, .int 0, .int 0, .null])), (q_1, .inl (g_2, 220, .inr (.inl f_12)))] := hD
  refine lv_dup hx hb d_M_init_60 rfl ?_
  refine lv_bipush (v := 10) hx hb d_M_init_61 (by decide) ?_
  refine lv_lconst (v := 0) hx hb d_M_init_63 (by decide) ?_
  refine va_lastG hx hb hK hP hD hS 1 0 rfl rfl (by unfold vp_in; decide) d_M_init_64 (fun f_13 H locs hP hD hS => ?_)
  have hP : va_P (dC, dI) cls [(o, .inr (4, [.null, .null, .null, .int 0, .int 0, .int 0, .int 0, .int 0, .null, .null, .int 0, .int 0, .int 0, .int 0, .int 0, .int 0, .int 0, .int 0, .null])), (q_1, .inl (g_2, 220, .inr (.inl f_13)))] H := hP
  have hD : va_D A [(o, .inr (4, [.null, .null, .null, .int 0, .int 0, .int 0, .int 0, .int 0, .null, .null, .int 0, .int 0, .int 0, .int 0, .int 0, .int 0, .int 0, .int 0, .null])), (q_1, .inl (g_2, 220, .inr (.inl f_13)))] := hD
  refine lv_dup hx hb d_M_init_65 rfl ?_
  refine lv_bipush (v := 11) hx hb d_M_init_66 (by decide) ?_
  refine lv_lconst (v := 0) hx hb d_M_init_68 (by decide) ?_
  refine va_lastG hx hb hK hP hD hS 1 0 rfl rfl (by unfold vp_in; decide) d_M_init_69 (fun f_14 H locs hP hD hS => ?_)
  have hP : va_P (dC, dI) cls [(o, .inr (4, [.null, .null, .null, .int 0, .int 0, .int 0, .int 0, .int 0, .null, .null, .int 0, .int 0, .int 0, .int 0, .int 0, .int 0, .int 0, .int 0, .null])), (q_1, .inl (g_2, 220, .inr (.inl f_14)))] H := hP
  have hD : va_D A [(o, .inr (4, [.null, .null, .null, .int 0, .int 0, .int 0, .int 0, .int 0, .null, .null, .int 0, .int 0, .int 0, .int 0, .int 0, .int 0, .int 0, .int 0, .null])), (q_1, .inl (g_2, 220, .inr (.inl f_14)))] := hD
  refine lv_dup hx hb d_M_init_70 rfl ?_
  refine lv_bipush (v := 12) hx hb d_M_init_71 (by decide) ?_
  refine lv_ldc2 (v := 7308343172944363520) hx hb hown (ht _ k_566) d_M_init_73 ?_
  refine va_lastG hx hb hK hP hD hS 1 0 rfl rfl (by unfold vp_in; decide) d_M_init_76 (fun f_15 H locs hP hD hS => ?_)
  have hP : va_P (dC, dI) cls [(o, .inr (4, [.null, .null, .null, .int 0, .int 0, .int 0, .int 0, .int 0, .null, .null, .int 0, .int 0, .int 0, .int 0, .int 0, .int 0, .int 0, .int 0, .null])), (q_1, .inl (g_2, 220, .inr (.inl f_15)))] H := hP
  have hD : va_D A [(o, .inr (4, [.null, .null, .null, .int 0, .int 0, .int 0, .int 0, .int 0, .null, .null, .int 0, .int 0, .int 0, .int 0, .int 0, .int 0, .int 0, .int 0, .null])), (q_1, .inl (g_2, 220, .inr (.inl f_15)))] := hD
  refine lv_dup hx hb d_M_init_77 rfl ?_
  refine lv_bipush (v := 13) hx hb d_M_init_78 (by decide) ?_
  refine lv_lconst (v := 0) hx hb d_M_init_80 (by decide) ?_
  refine va_lastG hx hb hK hP hD hS 1 0 rfl rfl (by unfold vp_in; decide) d_M_init_81 (fun f_16 H locs hP hD hS => ?_)
  have hP : va_P (dC, dI) cls [(o, .inr (4, [.null, .null, .null, .int 0, .int 0, .int 0, .int 0, .int 0, .null, .null, .int 0, .int 0, .int 0, .int 0, .int 0, .int 0, .int 0, .int 0, .null])), (q_1, .inl (g_2, 220, .inr (.inl f_16)))] H := hP
  have hD : va_D A [(o, .inr (4, [.null, .null, .null, .int 0, .int 0, .int 0, .int 0, .int 0, .null, .null, .int 0, .int 0, .int 0, .int 0, .int 0, .int 0, .int 0, .int 0, .null])), (q_1, .inl (g_2, 220, .inr (.inl f_16)))] := hD
  refine lv_dup hx hb d_M_init_82 rfl ?_
  refine lv_bipush (v := 14) hx hb d_M_init_83 (by decide) ?_
  refine lv_lconst (v := 0) hx hb d_M_init_85 (by decide) ?_
  refine va_lastG hx hb hK hP hD hS 1 0 rfl rfl (by unfold vp_in; decide) d_M_init_86 (fun f_17 H locs hP hD hS => ?_)
  have hP : va_P (dC, dI) cls [(o, .inr (4, [.null, .null, .null, .int 0, .int 0, .int 0, .int 0, .int 0, .null, .null, .int 0, .int 0, .int 0, .int 0, .int 0, .int 0, .int 0, .int 0, .null])), (q_1, .inl (g_2, 220, .inr (.inl f_17)))] H := hP
  have hD : va_D A [(o, .inr (4, [.null, .null, .null, .int 0, .int 0, .int 0, .int 0, .int 0, .null, .null, .int 0, .int 0, .int 0, .int 0, .int 0, .int 0, .int 0, .int 0, .null])), (q_1, .inl (g_2, 220, .inr (.inl f_17)))] := hD
  refine lv_dup hx hb d_M_init_87 rfl ?_
  refine lv_bipush (v := 15) hx hb d_M_init_88 (by decide) ?_
  refine lv_lconst (v := 0) hx hb d_M_init_90 (by decide) ?_
  refine va_lastG hx hb hK hP hD hS 1 0 rfl rfl (by unfold vp_in; decide) d_M_init_91 (fun f_18 H locs hP hD hS => ?_)
  have hP : va_P (dC, dI) cls [(o, .inr (4, [.null, .null, .null, .int 0, .int 0, .int 0, .int 0, .int 0, .null, .null, .int 0, .int 0, .int 0, .int 0, .int 0, .int 0, .int 0, .int 0, .null])), (q_1, .inl (g_2, 220, .inr (.inl f_18)))] H := hP
  have hD : va_D A [(o, .inr (4, [.null, .null, .null, .int 0, .int 0, .int 0, .int 0, .int 0, .null, .null, .int 0, .int 0, .int 0, .int 0, .int 0, .int 0, .int 0, .int 0, .null])), (q_1, .inl (g_2, 220, .inr (.inl f_18)))] := hD
  refine lv_dup hx hb d_M_init_92 rfl ?_
  refine lv_bipush (v := 16) hx hb d_M_init_93 (by decide) ?_
  refine lv_ldc2 (v := 8319396938487169024) hx hb hown (ht _ k_567) d_M_init_95 ?_
  refine va_lastG hx hb hK hP hD hS 1 0 rfl rfl (by unfold vp_in; decide) d_M_init_98 (fun f_19 H locs hP hD hS => ?_)
  have hP : va_P (dC, dI) cls [(o, .inr (4, [.null, .null, .null, .int 0, .int 0, .int 0, .int 0, .int 0, .null, .null, .int 0, .int 0, .int 0, .int 0, .int 0, .int 0, .int 0, .int 0, .null])), (q_1, .inl (g_2, 220, .inr (.inl f_19)))] H := hP
  have hD : va_D A [(o, .inr (4, [.null, .null, .null, .int 0, .int 0, .int 0, .int 0, .int 0, .null, .null, .int 0, .int 0, .int 0, .int 0, .int 0, .int 0, .int 0, .int 0, .null])), (q_1, .inl (g_2, 220, .inr (.inl f_19)))] := hD
  refine lv_dup hx hb d_M_init_99 rfl ?_
  refine lv_bipush (v := 17) hx hb d_M_init_100 (by decide) ?_
  refine lv_lconst (v := 0) hx hb d_M_init_102 (by decide) ?_
  refine va_lastG hx hb hK hP hD hS 1 0 rfl rfl (by unfold vp_in; decide) d_M_init_103 (fun f_20 H locs hP hD hS => ?_)
  have hP : va_P (dC, dI) cls [(o, .inr (4, [.null, .null, .null, .int 0, .int 0, .int 0, .int 0, .int 0, .null, .null, .int 0, .int 0, .int 0, .int 0, .int 0, .int 0, .int 0, .int 0, .null])), (q_1, .inl (g_2, 220, .inr (.inl f_20)))] H := hP
  have hD : va_D A [(o, .inr (4, [.null, .null, .null, .int 0, .int 0, .int 0, .int 0, .int 0, .null, .null, .int 0, .int 0, .int 0, .int 0, .int 0, .int 0, .int 0, .int 0, .null])), (q_1, .inl (g_2, 220, .inr (.inl f_20)))] := hD
  refine lv_dup hx hb d_M_init_104 rfl ?_
  refine lv_bipush (v := 18) hx hb d_M_init_105 (by decide) ?_
  refine lv_lconst (v := 0) hx hb d_M_init_107 (by decide) ?_
  refine va_lastG hx hb hK hP hD hS 1 0 rfl rfl (by unfold vp_in; decide) d_M_init_108 (fun f_21 H locs hP hD hS => ?_)
  have hP : va_P (dC, dI) cls [(o, .inr (4, [.null, .null, .null, .int 0, .int 0, .int 0, .int 0, .int 0, .null, .null, .int 0, .int 0, .int 0, .int 0, .int 0, .int 0, .int 0, .int 0, .null])), (q_1, .inl (g_2, 220, .inr (.inl f_21)))] H := hP
  have hD : va_D A [(o, .inr (4, [.null, .null, .null, .int 0, .int 0, .int 0, .int 0, .int 0, .null, .null, .int 0, .int 0, .int 0, .int 0, .int 0, .int 0, .int 0, .int 0, .null])), (q_1, .inl (g_2, 220, .inr (.inl f_21)))] := hD
  refine lv_dup hx hb d_M_init_109 rfl ?_
  refine lv_bipush (v := 19) hx hb d_M_init_110 (by decide) ?_
  refine lv_lconst (v := 0) hx hb d_M_init_112 (by decide) ?_
  refine va_lastG hx hb hK hP hD hS 1 0 rfl rfl (by unfold vp_in; decide) d_M_init_113 (fun f_22 H locs hP hD hS => ?_)
  have hP : va_P (dC, dI) cls [(o, .inr (4, [.null, .null, .null, .int 0, .int 0, .int 0, .int 0, .int 0, .null, .null, .int 0, .int 0, .int 0, .int 0, .int 0, .int 0, .int 0, .int 0, .null])), (q_1, .inl (g_2, 220, .inr (.inl f_22)))] H := hP
  have hD : va_D A [(o, .inr (4, [.null, .null, .null, .int 0, .int 0, .int 0, .int 0, .int 0, .null, .null, .int 0, .int 0, .int 0, .int 0, .int 0, .int 0, .int 0, .int 0, .null])), (q_1, .inl (g_2, 220, .inr (.inl f_22)))] := hD
  refine lv_dup hx hb d_M_init_114 rfl ?_
  refine lv_bipush (v := 20) hx hb d_M_init_115 (by decide) ?_
  refine lv_ldc2 (v := 7235441147021255680) hx hb hown (ht _ k_568) d_M_init_117 ?_
  refine va_lastG hx hb hK hP hD hS 1 0 rfl rfl (by unfold vp_in; decide) d_M_init_120 (fun f_23 H locs hP hD hS => ?_)
  have hP : va_P (dC, dI) cls [(o, .inr (4, [.null, .null, .null, .int 0, .int 0, .int 0, .int 0, .int 0, .null, .null, .int 0, .int 0, .int 0, .int 0, .int 0, .int 0, .int 0, .int 0, .null])), (q_1, .inl (g_2, 220, .inr (.inl f_23)))] H := hP
  have hD : va_D A [(o, .inr (4, [.null, .null, .null, .int 0, .int 0, .int 0, .int 0, .int 0, .null, .null, .int 0, .int 0, .int 0, .int 0, .int 0, .int 0, .int 0, .int 0, .null])), (q_1, .inl (g_2, 220, .inr (.inl f_23)))] := hD
  refine lv_dup hx hb d_M_init_121 rfl ?_
  refine lv_bipush (v := 21) hx hb d_M_init_122 (by decide) ?_
  refine lv_lconst (v := 0) hx hb d_M_init_124 (by decide) ?_
  refine va_lastG hx hb hK hP hD hS 1 0 rfl rfl (by unfold vp_in; decide) d_M_init_125 (fun f_24 H locs hP hD hS => ?_)
  have hP : va_P (dC, dI) cls [(o, .inr (4, [.null, .null, .null, .int 0, .int 0, .int 0, .int 0, .int 0, .null, .null, .int 0, .int 0, .int 0, .int 0, .int 0, .int 0, .int 0, .int 0, .null])), (q_1, .inl (g_2, 220, .inr (.inl f_24)))] H := hP
  have hD : va_D A [(o, .inr (4, [.null, .null, .null, .int 0, .int 0, .int 0, .int 0, .int 0, .null, .null, .int 0, .int 0, .int 0, .int 0, .int 0, .int 0, .int 0, .int 0, .null])), (q_1, .inl (g_2, 220, .inr (.inl f_24)))] := hD
  refine lv_dup hx hb d_M_init_126 rfl ?_
  refine lv_bipush (v := 22) hx hb d_M_init_127 (by decide) ?_
  refine lv_lconst (v := 0) hx hb d_M_init_129 (by decide) ?_
  refine va_lastG hx hb hK hP hD hS 1 0 rfl rfl (by unfold vp_in; decide) d_M_init_130 (fun f_25 H locs hP hD hS => ?_)
  have hP : va_P (dC, dI) cls [(o, .inr (4, [.null, .null, .null, .int 0, .int 0, .int 0, .int 0, .int 0, .null, .null, .int 0, .int 0, .int 0, .int 0, .int 0, .int 0, .int 0, .int 0, .null])), (q_1, .inl (g_2, 220, .inr (.inl f_25)))] H := hP
  have hD : va_D A [(o, .inr (4, [.null, .null, .null, .int 0, .int 0, .int 0, .int 0, .int 0, .null, .null, .int 0, .int 0, .int 0, .int 0, .int 0, .int 0, .int 0, .int 0, .null])), (q_1, .inl (g_2, 220, .inr (.inl f_25)))] := hD
  refine lv_dup hx hb d_M_init_131 rfl ?_
  refine lv_bipush (v := 23) hx hb d_M_init_132 (by decide) ?_
  refine lv_lconst (v := 0) hx hb d_M_init_134 (by decide) ?_
  refine va_lastG hx hb hK hP hD hS 1 0 rfl rfl (by unfold vp_in; decide) d_M_init_135 (fun f_26 H locs hP hD hS => ?_)
  have hP : va_P (dC, dI) cls [(o, .inr (4, [.null, .null, .null, .int 0, .int 0, .int 0, .int 0, .int 0, .null, .null, .int 0, .int 0, .int 0, .int 0, .int 0, .int 0, .int 0, .int 0, .null])), (q_1, .inl (g_2, 220, .inr (.inl f_26)))] H := hP
  have hD : va_D A [(o, .inr (4, [.null, .null, .null, .int 0, .int 0, .int 0, .int 0, .int 0, .null, .null, .int 0, .int 0, .int 0, .int 0, .int 0, .int 0, .int 0, .int 0, .null])), (q_1, .inl (g_2, 220, .inr (.inl f_26)))] := hD
  refine lv_dup hx hb d_M_init_136 rfl ?_
  refine lv_bipush (v := 24) hx hb d_M_init_137 (by decide) ?_
  refine lv_ldc2 (v := 7738703066416807936) hx hb hown (ht _ k_569) d_M_init_139 ?_
  refine va_lastG hx hb hK hP hD hS 1 0 rfl rfl (by unfold vp_in; decide) d_M_init_142 (fun f_27 H locs hP hD hS => ?_)
  have hP : va_P (dC, dI) cls [(o, .inr (4, [.null, .null, .null, .int 0, .int 0, .int 0, .int 0, .int 0, .null, .null, .int 0, .int 0, .int 0, .int 0, .int 0, .int 0, .int 0, .int 0, .null])), (q_1, .inl (g_2, 220, .inr (.inl f_27)))] H := hP
  have hD : va_D A [(o, .inr (4, [.null, .null, .null, .int 0, .int 0, .int 0, .int 0, .int 0, .null, .null, .int 0, .int 0, .int 0, .int 0, .int 0, .int 0, .int 0, .int 0, .null])), (q_1, .inl (g_2, 220, .inr (.inl f_27)))] := hD
  refine lv_dup hx hb d_M_init_143 rfl ?_
  refine lv_bipush (v := 25) hx hb d_M_init_144 (by decide) ?_
  refine lv_lconst (v := 0) hx hb d_M_init_146 (by decide) ?_
  refine va_lastG hx hb hK hP hD hS 1 0 rfl rfl (by unfold vp_in; decide) d_M_init_147 (fun f_28 H locs hP hD hS => ?_)
  have hP : va_P (dC, dI) cls [(o, .inr (4, [.null, .null, .null, .int 0, .int 0, .int 0, .int 0, .int 0, .null, .null, .int 0, .int 0, .int 0, .int 0, .int 0, .int 0, .int 0, .int 0, .null])), (q_1, .inl (g_2, 220, .inr (.inl f_28)))] H := hP
  have hD : va_D A [(o, .inr (4, [.null, .null, .null, .int 0, .int 0, .int 0, .int 0, .int 0, .null, .null, .int 0, .int 0, .int 0, .int 0, .int 0, .int 0, .int 0, .int 0, .null])), (q_1, .inl (g_2, 220, .inr (.inl f_28)))] := hD
  refine lv_dup hx hb d_M_init_148 rfl ?_
  refine lv_bipush (v := 26) hx hb d_M_init_149 (by decide) ?_
  refine lv_lconst (v := 0) hx hb d_M_init_151 (by decide) ?_
  refine va_lastG hx hb hK hP hD hS 1 0 rfl rfl (by unfold vp_in; decide) d_M_init_152 (fun f_29 H locs hP hD hS => ?_)
  have hP : va_P (dC, dI) cls [(o, .inr (4, [.null, .null, .null, .int 0, .int 0, .int 0, .int 0, .int 0, .null, .null, .int 0, .int 0, .int 0, .int 0, .int 0, .int 0, .int 0, .int 0, .null])), (q_1, .inl (g_2, 220, .inr (.inl f_29)))] H := hP
  have hD : va_D A [(o, .inr (4, [.null, .null, .null, .int 0, .int 0, .int 0, .int 0, .int 0, .null, .null, .int 0, .int 0, .int 0, .int 0, .int 0, .int 0, .int 0, .int 0, .null])), (q_1, .inl (g_2, 220, .inr (.inl f_29)))] := hD
  refine lv_dup hx hb d_M_init_153 rfl ?_
  refine lv_bipush (v := 27) hx hb d_M_init_154 (by decide) ?_
  refine lv_lconst (v := 0) hx hb d_M_init_156 (by decide) ?_
  refine va_lastG hx hb hK hP hD hS 1 0 rfl rfl (by unfold vp_in; decide) d_M_init_157 (fun f_30 H locs hP hD hS => ?_)
  have hP : va_P (dC, dI) cls [(o, .inr (4, [.null, .null, .null, .int 0, .int 0, .int 0, .int 0, .int 0, .null, .null, .int 0, .int 0, .int 0, .int 0, .int 0, .int 0, .int 0, .int 0, .null])), (q_1, .inl (g_2, 220, .inr (.inl f_30)))] H := hP
  have hD : va_D A [(o, .inr (4, [.null, .null, .null, .int 0, .int 0, .int 0, .int 0, .int 0, .null, .null, .int 0, .int 0, .int 0, .int 0, .int 0, .int 0, .int 0, .int 0, .null])), (q_1, .inl (g_2, 220, .inr (.inl f_30)))] := hD
  refine lv_dup hx hb d_M_init_158 rfl ?_
  refine lv_bipush (v := 28) hx hb d_M_init_159 (by decide) ?_
  refine lv_ldc2 (v := 7379548647239611503) hx hb hown (ht _ k_570) d_M_init_161 ?_
  refine va_lastG hx hb hK hP hD hS 1 0 rfl rfl (by unfold vp_in; decide) d_M_init_164 (fun f_31 H locs hP hD hS => ?_)
  have hP : va_P (dC, dI) cls [(o, .inr (4, [.null, .null, .null, .int 0, .int 0, .int 0, .int 0, .int 0, .null, .null, .int 0, .int 0, .int 0, .int 0, .int 0, .int 0, .int 0, .int 0, .null])), (q_1, .inl (g_2, 220, .inr (.inl f_31)))] H := hP
  have hD : va_D A [(o, .inr (4, [.null, .null, .null, .int 0, .int 0, .int 0, .int 0, .int 0, .null, .null, .int 0, .int 0, .int 0, .int 0, .int 0, .int 0, .int 0, .int 0, .null])), (q_1, .inl (g_2, 220, .inr (.inl f_31)))] := hD
  refine lv_dup hx hb d_M_init_165 rfl ?_
  refine lv_bipush (v := 29) hx hb d_M_init_166 (by decide) ?_
  refine lv_lconst (v := 0) hx hb d_M_init_168 (by decide) ?_
  refine va_lastG hx hb hK hP hD hS 1 0 rfl rfl (by unfold vp_in; decide) d_M_init_169 (fun f_32 H locs hP hD hS => ?_)
  have hP : va_P (dC, dI) cls [(o, .inr (4, [.null, .null, .null, .int 0, .int 0, .int 0, .int 0, .int 0, .null, .null, .int 0, .int 0, .int 0, .int 0, .int 0, .int 0, .int 0, .int 0, .null])), (q_1, .inl (g_2, 220, .inr (.inl f_32)))] H := hP
  have hD : va_D A [(o, .inr (4, [.null, .null, .null, .int 0, .int 0, .int 0, .int 0, .int 0, .null, .null, .int 0, .int 0, .int 0, .int 0, .int 0, .int 0, .int 0, .int 0, .null])), (q_1, .inl (g_2, 220, .inr (.inl f_32)))] := hD
  refine lv_dup hx hb d_M_init_170 rfl ?_
  refine lv_bipush (v := 30) hx hb d_M_init_171 (by decide) ?_
  refine lv_lconst (v := 0) hx hb d_M_init_173 (by decide) ?_
  refine va_lastG hx hb hK hP hD hS 1 0 rfl rfl (by unfold vp_in; decide) d_M_init_174 (fun f_33 H locs hP hD hS => ?_)
  have hP : va_P (dC, dI) cls [(o, .inr (4, [.null, .null, .null, .int 0, .int 0, .int 0, .int 0, .int 0, .null, .null, .int 0, .int 0, .int 0, .int 0, .int 0, .int 0, .int 0, .int 0, .null])), (q_1, .inl (g_2, 220, .inr (.inl f_33)))] H := hP
  have hD : va_D A [(o, .inr (4, [.null, .null, .null, .int 0, .int 0, .int 0, .int 0, .int 0, .null, .null, .int 0, .int 0, .int 0, .int 0, .int 0, .int 0, .int 0, .int 0, .null])), (q_1, .inl (g_2, 220, .inr (.inl f_33)))] := hD
  refine lv_dup hx hb d_M_init_175 rfl ?_
  refine lv_bipush (v := 31) hx hb d_M_init_176 (by decide) ?_
  refine lv_lconst (v := 0) hx hb d_M_init_178 (by decide) ?_
  refine va_lastG hx hb hK hP hD hS 1 0 rfl rfl (by unfold vp_in; decide) d_M_init_179 (fun f_34 H locs hP hD hS => ?_)
  have hP : va_P (dC, dI) cls [(o, .inr (4, [.null, .null, .null, .int 0, .int 0, .int 0, .int 0, .int 0, .null, .null, .int 0, .int 0, .int 0, .int 0, .int 0, .int 0, .int 0, .int 0, .null])), (q_1, .inl (g_2, 220, .inr (.inl f_34)))] H := hP
  have hD : va_D A [(o, .inr (4, [.null, .null, .null, .int 0, .int 0, .int 0, .int 0, .int 0, .null, .null, .int 0, .int 0, .int 0, .int 0, .int 0, .int 0, .int 0, .int 0, .null])), (q_1, .inl (g_2, 220, .inr (.inl f_34)))] := hD
  refine lv_dup hx hb d_M_init_180 rfl ?_
  refine lv_bipush (v := 32) hx hb d_M_init_181 (by decide) ?_
  refine lv_ldc2 (v := 8243105097025151860) hx hb hown (ht _ k_571) d_M_init_183 ?_
  refine va_lastG hx hb hK hP hD hS 1 0 rfl rfl (by unfold vp_in; decide) d_M_init_186 (fun f_35 H locs hP hD hS => ?_)
  have hP : va_P (dC, dI) cls [(o, .inr (4, [.null, .null, .null, .int 0, .int 0, .int 0, .int 0, .int 0, .null, .null, .int 0, .int 0, .int 0, .int 0, .int 0, .int 0, .int 0, .int 0, .null])), (q_1, .inl (g_2, 220, .inr (.inl f_35)))] H := hP
  have hD : va_D A [(o, .inr (4, [.null, .null, .null, .int 0, .int 0, .int 0, .int 0, .int 0, .null, .null, .int 0, .int 0, .int 0, .int 0, .int 0, .int 0, .int 0, .int 0, .null])), (q_1, .inl (g_2, 220, .inr (.inl f_35)))] := hD
  refine lv_dup hx hb d_M_init_187 rfl ?_
  refine lv_bipush (v := 33) hx hb d_M_init_188 (by decide) ?_
  refine lv_lconst (v := 0) hx hb d_M_init_190 (by decide) ?_
  refine va_lastG hx hb hK hP hD hS 1 0 rfl rfl (by unfold vp_in; decide) d_M_init_191 (fun f_36 H locs hP hD hS => ?_)
  have hP : va_P (dC, dI) cls [(o, .inr (4, [.null, .null, .null, .int 0, .int 0, .int 0, .int 0, .int 0, .null, .null, .int 0, .int 0, .int 0, .int 0, .int 0, .int 0, .int 0, .int 0, .null])), (q_1, .inl (g_2, 220, .inr (.inl f_36)))] H := hP
  have hD : va_D A [(o, .inr (4, [.null, .null, .null, .int 0, .int 0, .int 0, .int 0, .int 0, .null, .null, .int 0, .int 0, .int 0, .int 0, .int 0, .int 0, .int 0, .int 0, .null])), (q_1, .inl (g_2, 220, .inr (.inl f_36)))] := hD
  refine lv_dup hx hb d_M_init_192 rfl ?_
  refine lv_bipush (v := 34) hx hb d_M_init_193 (by decide) ?_
  refine lv_lconst (v := 0) hx hb d_M_init_195 (by decide) ?_
  refine va_lastG hx hb hK hP hD hS 1 0 rfl rfl (by unfold vp_in; decide) d_M_init_196 (fun f_37 H locs hP hD hS => ?_)
  have hP : va_P (dC, dI) cls [(o, .inr (4, [.null, .null, .null, .int 0, .int 0, .int 0, .int 0, .int 0, .null, .null, .int 0, .int 0, .int 0, .int 0, .int 0, .int 0, .int 0, .int 0, .null])), (q_1, .inl (g_2, 220, .inr (.inl f_37)))] H := hP
  have hD : va_D A [(o, .inr (4, [.null, .null, .null, .int 0, .int 0, .int 0, .int 0, .int 0, .null, .null, .int 0, .int 0, .int 0, .int 0, .int 0, .int 0, .int 0, .int 0, .null])), (q_1, .inl (g_2, 220, .inr (.inl f_37)))] := hD
  refine lv_dup hx hb d_M_init_197 rfl ?_
  refine lv_bipush (v := 35) hx hb d_M_init_198 (by decide) ?_
  refine lv_lconst (v := 0) hx hb d_M_init_200 (by decide) ?_
  refine va_lastG hx hb hK hP hD hS 1 0 rfl rfl (by unfold vp_in; decide) d_M_init_201 (fun f_38 H locs hP hD hS => ?_)
  have hP : va_P (dC, dI) cls [(o, .inr (4, [.null, .null, .null, .int 0, .int 0, .int 0, .int 0, .int 0, .null, .null, .int 0, .int 0, .int 0, .int 0, .int 0, .int 0, .int 0, .int 0, .null])), (q_1, .inl (g_2, 220, .inr (.inl f_38)))] H := hP
  have hD : va_D A [(o, .inr (4, [.null, .null, .null, .int 0, .int 0, .int 0, .int 0, .int 0, .null, .null, .int 0, .int 0, .int 0, .int 0, .int 0, .int 0, .int 0, .int 0, .null])), (q_1, .inl (g_2, 220, .inr (.inl f_38)))] := hD
  refine lv_dup hx hb d_M_init_202 rfl ?_
  refine lv_bipush (v := 36) hx hb d_M_init_203 (by decide) ?_
  refine lv_ldc2 (v := 8243111676664348672) hx hb hown (ht _ k_572) d_M_init_205 ?_
  refine va_lastG hx hb hK hP hD hS 1 0 rfl rfl (by unfold vp_in; decide) d_M_init_208 (fun f_39 H locs hP hD hS => ?_)
  have hP : va_P (dC, dI) cls [(o, .inr (4, [.null, .null, .null, .int 0, .int 0, .int 0, .int 0, .int 0, .null, .null, .int 0, .int 0, .int 0, .int 0, .int 0, .int 0, .int 0, .int 0, .null])), (q_1, .inl (g_2, 220, .inr (.inl f_39)))] H := hP
  have hD : va_D A [(o, .inr (4, [.null, .null, .null, .int 0, .int 0, .int 0, .int 0, .int 0, .null, .null, .int 0, .int 0, .int 0, .int 0, .int 0, .int 0, .int 0, .int 0, .null])), (q_1, .inl (g_2, 220, .inr (.inl f_39)))] := hD
  refine lv_dup hx hb d_M_init_209 rfl ?_
  refine lv_bipush (v := 37) hx hb d_M_init_210 (by decide) ?_
  refine lv_lconst (v := 0) hx hb d_M_init_212 (by decide) ?_
  refine va_lastG hx hb hK hP hD hS 1 0 rfl rfl (by unfold vp_in; decide) d_M_init_213 (fun f_40 H locs hP hD hS => ?_)
  have hP : va_P (dC, dI) cls [(o, .inr (4, [.null, .null, .null, .int 0, .int 0, .int 0, .int 0, .int 0, .null, .null, .int 0, .int 0, .int 0, .int 0, .int 0, .int 0, .int 0, .int 0, .null])), (q_1, .inl (g_2, 220, .inr (.inl f_40)))] H := hP
  have hD : va_D A [(o, .inr (4, [.null, .null, .null, .int 0, .int 0, .int 0, .int 0, .int 0, .null, .null, .int 0, .int 0, .int 0, .int 0, .int 0, .int 0, .int 0, .int 0, .null])), (q_1, .inl (g_2, 220, .inr (.inl f_40)))] := hD
  refine lv_dup hx hb d_M_init_214 rfl ?_
  refine lv_bipush (v := 38) hx hb d_M_init_215 (by decide) ?_
  refine lv_lconst (v := 0) hx hb d_M_init_217 (by decide) ?_
  refine va_lastG hx hb hK hP hD hS 1 0 rfl rfl (by unfold vp_in; decide) d_M_init_218 (fun f_41 H locs hP hD hS => ?_)
  have hP : va_P (dC, dI) cls [(o, .inr (4, [.null, .null, .null, .int 0, .int 0, .int 0, .int 0, .int 0, .null, .null, .int 0, .int 0, .int 0, .int 0, .int 0, .int 0, .int 0, .int 0, .null])), (q_1, .inl (g_2, 220, .inr (.inl f_41)))] H := hP
  have hD : va_D A [(o, .inr (4, [.null, .null, .null, .int 0, .int 0, .int 0, .int 0, .int 0, .null, .null, .int 0, .int 0, .int 0, .int 0, .int 0, .int 0, .int 0, .int 0, .null])), (q_1, .inl (g_2, 220, .inr (.inl f_41)))] := hD
  refine lv_dup hx hb d_M_init_219 rfl ?_
  refine lv_bipush (v := 39) hx hb d_M_init_220 (by decide) ?_
  refine lv_lconst (v := 0) hx hb d_M_init_222 (by decide) ?_
  refine va_lastG hx hb hK hP hD hS 1 0 rfl rfl (by unfold vp_in; decide) d_M_init_223 (fun f_42 H locs hP hD hS => ?_)
  have hP : va_P (dC, dI) cls [(o, .inr (4, [.null, .null, .null, .int 0, .int 0, .int 0, .int 0, .int 0, .null, .null, .int 0, .int 0, .int 0, .int 0, .int 0, .int 0, .int 0, .int 0, .null])), (q_1, .inl (g_2, 220, .inr (.inl f_42)))] H := hP
  have hD : va_D A [(o, .inr (4, [.null, .null, .null, .int 0, .int 0, .int 0, .int 0, .int 0, .null, .null, .int 0, .int 0, .int 0, .int 0, .int 0, .int 0, .int 0, .int 0, .null])), (q_1, .inl (g_2, 220, .inr (.inl f_42)))] := hD
  refine lv_dup hx hb d_M_init_224 rfl ?_
  refine lv_bipush (v := 40) hx hb d_M_init_225 (by decide) ?_
  refine lv_ldc2 (v := 8315180270263297792) hx hb hown (ht _ k_573) d_M_init_227 ?_
  refine va_lastG hx hb hK hP hD hS 1 0 rfl rfl (by unfold vp_in; decide) d_M_init_230 (fun f_43 H locs hP hD hS => ?_)
  have hP : va_P (dC, dI) cls [(o, .inr (4, [.null, .null, .null, .int 0, .int 0, .int 0, .int 0, .int 0, .null, .null, .int 0, .int 0, .int 0, .int 0, .int 0, .int 0, .int 0, .int 0, .null])), (q_1, .inl (g_2, 220, .inr (.inl f_43)))] H := hP
  have hD : va_D A [(o, .inr (4, [.null, .null, .null, .int 0, .int 0, .int 0, .int 0, .int 0, .null, .null, .int 0, .int 0, .int 0, .int 0, .int 0, .int 0, .int 0, .int 0, .null])), (q_1, .inl (g_2, 220, .inr (.inl f_43)))] := hD
  refine lv_dup hx hb d_M_init_231 rfl ?_
  refine lv_bipush (v := 41) hx hb d_M_init_232 (by decide) ?_
  refine lv_lconst (v := 0) hx hb d_M_init_234 (by decide) ?_
  refine va_lastG hx hb hK hP hD hS 1 0 rfl rfl (by unfold vp_in; decide) d_M_init_235 (fun f_44 H locs hP hD hS => ?_)
  have hP : va_P (dC, dI) cls [(o, .inr (4, [.null, .null, .null, .int 0, .int 0, .int 0, .int 0, .int 0, .null, .null, .int 0, .int 0, .int 0, .int 0, .int 0, .int 0, .int 0, .int 0, .null])), (q_1, .inl (g_2, 220, .inr (.inl f_44)))] H := hP
  have hD : va_D A [(o, .inr (4, [.null, .null, .null, .int 0, .int 0, .int 0, .int 0, .int 0, .null, .null, .int 0, .int 0, .int 0, .int 0, .int 0, .int 0, .int 0, .int 0, .null])), (q_1, .inl (g_2, 220, .inr (.inl f_44)))] := hD
  refine lv_dup hx hb d_M_init_236 rfl ?_
  refine lv_bipush (v := 42) hx hb d_M_init_237 (by decide) ?_
  refine lv_lconst (v := 0) hx hb d_M_init_239 (by decide) ?_
  refine va_lastG hx hb hK hP hD hS 1 0 rfl rfl (by unfold vp_in; decide) d_M_init_240 (fun f_45 H locs hP hD hS => ?_)
  have hP : va_P (dC, dI) cls [(o, .inr (4, [.null, .null, .null, .int 0, .int 0, .int 0, .int 0, .int 0, .null, .null, .int 0, .int 0, .int 0, .int 0, .int 0, .int 0, .int 0, .int 0, .null])), (q_1, .inl (g_2, 220, .inr (.inl f_45)))] H := hP
  have hD : va_D A [(o, .inr (4, [.null, .null, .null, .int 0, .int 0, .int 0, .int 0, .int 0, .null, .null, .int 0, .int 0, .int 0, .int 0, .int 0, .int 0, .int 0, .int 0, .null])), (q_1, .inl (g_2, 220, .inr (.inl f_45)))] := hD
  refine lv_dup hx hb d_M_init_241 rfl ?_
  refine lv_bipush (v := 43) hx hb d_M_init_242 (by decide) ?_
  refine lv_lconst (v := 0) hx hb d_M_init_244 (by decide) ?_
  refine va_lastG hx hb hK hP hD hS 1 0 rfl rfl (by unfold vp_in; decide) d_M_init_245 (fun f_46 H locs hP hD hS => ?_)
  have hP : va_P (dC, dI) cls [(o, .inr (4, [.null, .null, .null, .int 0, .int 0, .int 0, .int 0, .int 0, .null, .null, .int 0, .int 0, .int 0, .int 0, .int 0, .int 0, .int 0, .int 0, .null])), (q_1, .inl (g_2, 220, .inr (.inl f_46)))] H := hP
  have hD : va_D A [(o, .inr (4, [.null, .null, .null, .int 0, .int 0, .int 0, .int 0, .int 0, .null, .null, .int 0, .int 0, .int 0, .int 0, .int 0, .int 0, .int 0, .int 0, .null])), (q_1, .inl (g_2, 220, .inr (.inl f_46)))] := hD
  refine lv_dup hx hb d_M_init_246 rfl ?_
  refine lv_bipush (v := 44) hx hb d_M_init_247 (by decide) ?_
  refine lv_ldc2 (v := 7017844510417839872) hx hb hown (ht _ k_574) d_M_init_249 ?_
  refine va_lastG hx hb hK hP hD hS 1 0 rfl rfl (by unfold vp_in; decide) d_M_init_252 (fun f_47 H locs hP hD hS => ?_)
  have hP : va_P (dC, dI) cls [(o, .inr (4, [.null, .null, .null, .int 0, .int 0, .int 0, .int 0, .int 0, .null, .null, .int 0, .int 0, .int 0, .int 0, .int 0, .int 0, .int 0, .int 0, .null])), (q_1, .inl (g_2, 220, .inr (.inl f_47)))] H := hP
  have hD : va_D A [(o, .inr (4, [.null, .null, .null, .int 0, .int 0, .int 0, .int 0, .int 0, .null, .null, .int 0, .int 0, .int 0, .int 0, .int 0, .int 0, .int 0, .int 0, .null])), (q_1, .inl (g_2, 220, .inr (.inl f_47)))] := hD
  refine lv_dup hx hb d_M_init_253 rfl ?_
  refine lv_bipush (v := 45) hx hb d_M_init_254 (by decide) ?_
  refine lv_lconst (v := 0) hx hb d_M_init_256 (by decide) ?_
  refine va_lastG hx hb hK hP hD hS 1 0 rfl rfl (by unfold vp_in; decide) d_M_init_257 (fun f_48 H locs hP hD hS => ?_)
  have hP : va_P (dC, dI) cls [(o, .inr (4, [.null, .null, .null, .int 0, .int 0, .int 0, .int 0, .int 0, .null, .null, .int 0, .int 0, .int 0, .int 0, .int 0, .int 0, .int 0, .int 0, .null])), (q_1, .inl (g_2, 220, .inr (.inl f_48)))] H := hP
  have hD : va_D A [(o, .inr (4, [.null, .null, .null, .int 0, .int 0, .int 0, .int 0, .int 0, .null, .null, .int 0, .int 0, .int 0, .int 0, .int 0, .int 0, .int 0, .int 0, .null])), (q_1, .inl (g_2, 220, .inr (.inl f_48)))] := hD
  refine lv_dup hx hb d_M_init_258 rfl ?_
  refine lv_bipush (v := 46) hx hb d_M_init_259 (by decide) ?_
  refine lv_lconst (v := 0) hx hb d_M_init_261 (by decide) ?_
  refine va_lastG hx hb hK hP hD hS 1 0 rfl rfl (by unfold vp_in; decide) d_M_init_262 (fun f_49 H locs hP hD hS => ?_)
  have hP : va_P (dC, dI) cls [(o, .inr (4, [.null, .null, .null, .int 0, .int 0, .int 0, .int 0, .int 0, .null, .null, .int 0, .int 0, .int 0, .int 0, .int 0, .int 0, .int 0, .int 0, .null])), (q_1, .inl (g_2, 220, .inr (.inl f_49)))] H := hP
  have hD : va_D A [(o, .inr (4, [.null, .null, .null, .int 0, .int 0, .int 0, .int 0, .int 0, .null, .null, .int 0, .int 0, .int 0, .int 0, .int 0, .int 0, .int 0, .int 0, .null])), (q_1, .inl (g_2, 220, .inr (.inl f_49)))] := hD
  refine lv_dup hx hb d_M_init_263 rfl ?_
  refine lv_bipush (v := 47) hx hb d_M_init_264 (by decide) ?_
  refine lv_lconst (v := 0) hx hb d_M_init_266 (by decide) ?_
  refine va_lastG hx hb hK hP hD hS 1 0 rfl rfl (by unfold vp_in; decide) d_M_init_267 (fun f_50 H locs hP hD hS => ?_)
  have hP : va_P (dC, dI) cls [(o, .inr (4, [.null, .null, .null, .int 0, .int 0, .int 0, .int 0, .int 0, .null, .null, .int 0, .int 0, .int 0, .int 0, .int 0, .int 0, .int 0, .int 0, .null])), (q_1, .inl (g_2, 220, .inr (.inl f_50)))] H := hP
  have hD : va_D A [(o, .inr (4, [.null, .null, .null, .int 0, .int 0, .int 0, .int 0, .int 0, .null, .null, .int 0, .int 0, .int 0, .int 0, .int 0, .int 0, .int 0, .int 0, .null])), (q_1, .inl (g_2, 220, .inr (.inl f_50)))] := hD
  refine lv_dup hx hb d_M_init_268 rfl ?_
  refine lv_bipush (v := 48) hx hb d_M_init_269 (by decide) ?_
  refine lv_ldc2 (v := 8243115018466715244) hx hb hown (ht _ k_575) d_M_init_271 ?_
  refine va_lastG hx hb hK hP hD hS 1 0 rfl rfl (by unfold vp_in; decide) d_M_init_274 (fun f_51 H locs hP hD hS => ?_)
  have hP : va_P (dC, dI) cls [(o, .inr (4, [.null, .null, .null, .int 0, .int 0, .int 0, .int 0, .int 0, .null, .null, .int 0, .int 0, .int 0, .int 0, .int 0, .int 0, .int 0, .int 0, .null])), (q_1, .inl (g_2, 220, .inr (.inl f_51)))] H := hP
  have hD : va_D A [(o, .inr (4, [.null, .null, .null, .int 0, .int 0, .int 0, .int 0, .int 0, .null, .null, .int 0, .int 0, .int 0, .int 0, .int 0, .int 0, .int 0, .int 0, .null])), (q_1, .inl (g_2, 220, .inr (.inl f_51)))] := hD
  refine lv_dup hx hb d_M_init_275 rfl ?_
  refine lv_bipush (v := 49) hx hb d_M_init_276 (by decide) ?_
  refine lv_ldc2 (v := 7018578544280207360) hx hb hown (ht _ k_576) d_M_init_278 ?_
  refine va_lastG hx hb hK hP hD hS 1 0 rfl rfl (by unfold vp_in; decide) d_M_init_281 (fun f_52 H locs hP hD hS => ?_)
  have hP : va_P (dC, dI) cls [(o, .inr (4, [.null, .null, .null, .int 0, .int 0, .int 0, .int 0, .int 0, .null, .null, .int 0, .int 0, .int 0, .int 0, .int 0, .int 0, .int 0, .int 0, .null])), (q_1, .inl (g_2, 220, .inr (.inl f_52)))] H := hP
  have hD : va_D A [(o, .inr (4, [.null, .null, .null, .int 0, .int 0, .int 0, .int 0, .int 0, .null, .null, .int 0, .int 0, .int 0, .int 0, .int 0, .int 0, .int 0, .int 0, .null])), (q_1, .inl (g_2, 220, .inr (.inl f_52)))] := hD
  refine lv_dup hx hb d_M_init_282 rfl ?_
  refine lv_bipush (v := 50) hx hb d_M_init_283 (by decide) ?_
  refine lv_lconst (v := 0) hx hb d_M_init_285 (by decide) ?_
  refine va_lastG hx hb hK hP hD hS 1 0 rfl rfl (by unfold vp_in; decide) d_M_init_286 (fun f_53 H locs hP hD hS => ?_)
  have hP : va_P (dC, dI) cls [(o, .inr (4, [.null, .null, .null, .int 0, .int 0, .int 0, .int 0, .int 0, .null, .null, .int 0, .int 0, .int 0, .int 0, .int 0, .int 0, .int 0, .int 0, .null])), (q_1, .inl (g_2, 220, .inr (.inl f_53)))] H := hP
  have hD : va_D A [(o, .inr (4, [.null, .null, .null, .int 0, .int 0, .int 0, .int 0, .int 0, .null, .null, .int 0, .int 0, .int 0, .int 0, .int 0, .int 0, .int 0, .int 0, .null])), (q_1, .inl (g_2, 220, .inr (.inl f_53)))] := hD
  refine lv_dup hx hb d_M_init_287 rfl ?_
  refine lv_bipush (v := 51) hx hb d_M_init_288 (by decide) ?_
  refine lv_lconst (v := 0) hx hb d_M_init_290 (by decide) ?_
  refine va_lastG hx hb hK hP hD hS 1 0 rfl rfl (by unfold vp_in; decide) d_M_init_291 (fun f_54 H locs hP hD hS => ?_)
  have hP : va_P (dC, dI) cls [(o, .inr (4, [.null, .null, .null, .int 0, .int 0, .int 0, .int 0, .int 0, .null, .null, .int 0, .int 0, .int 0, .int 0, .int 0, .int 0, .int 0, .int 0, .null])), (q_1, .inl (g_2, 220, .inr (.inl f_54)))] H := hP
  have hD : va_D A [(o, .inr (4, [.null, .null, .null, .int 0, .int 0, .int 0, .int 0, .int 0, .null, .null, .int 0, .int 0, .int 0, .int 0, .int 0, .int 0, .int 0, .int 0, .null])), (q_1, .inl (g_2, 220, .inr (.inl f_54)))] := hD
  refine lv_dup hx hb d_M_init_292 rfl ?_
  refine lv_bipush (v := 52) hx hb d_M_init_293 (by decide) ?_
  refine lv_ldc2 (v := 8530208439432474478) hx hb hown (ht _ k_577) d_M_init_295 ?_
  refine va_lastG hx hb hK hP hD hS 1 0 rfl rfl (by unfold vp_in; decide) d_M_init_298 (fun f_55 H locs hP hD hS => ?_)
  have hP : va_P (dC, dI) cls [(o, .inr (4, [.null, .null, .null, .int 0, .int 0, .int 0, .int 0, .int 0, .null, .null, .int 0, .int 0, .int 0, .int 0, .int 0, .int 0, .int 0, .int 0, .null])), (q_1, .inl (g_2, 220, .inr (.inl f_55)))] H := hP
  have hD : va_D A [(o, .inr (4, [.null, .null, .null, .int 0, .int 0, .int 0, .int 0, .int 0, .null, .null, .int 0, .int 0, .int 0, .int 0, .int 0, .int 0, .int 0, .int 0, .null])), (q_1, .inl (g_2, 220, .inr (.inl f_55)))] := hD
  refine lv_dup hx hb d_M_init_299 rfl ?_
  refine lv_bipush (v := 53) hx hb d_M_init_300 (by decide) ?_
  refine lv_lconst (v := 0) hx hb d_M_init_302 (by decide) ?_
  refine va_lastG hx hb hK hP hD hS 1 0 rfl rfl (by unfold vp_in; decide) d_M_init_303 (fun f_56 H locs hP hD hS => ?_)
  have hP : va_P (dC, dI) cls [(o, .inr (4, [.null, .null, .null, .int 0, .int 0, .int 0, .int 0, .int 0, .null, .null, .int 0, .int 0, .int 0, .int 0, .int 0, .int 0, .int 0, .int 0, .null])), (q_1, .inl (g_2, 220, .inr (.inl f_56)))] H := hP
  have hD : va_D A [(o, .inr (4, [.null, .null, .null, .int 0, .int 0, .int 0, .int 0, .int 0, .null, .null, .int 0, .int 0, .int 0, .int 0, .int 0, .int 0, .int 0, .int 0, .null])), (q_1, .inl (g_2, 220, .inr (.inl f_56)))] := hD
  refine lv_dup hx hb d_M_init_304 rfl ?_
  refine lv_bipush (v := 54) hx hb d_M_init_305 (by decide) ?_
  refine lv_lconst (v := 0) hx hb d_M_init_307 (by decide) ?_
  refine va_lastG hx hb hK hP hD hS 1 0 rfl rfl (by unfold vp_in; decide) d_M_init_308 (fun f_57 H locs hP hD hS => ?_)
  have hP : va_P (dC, dI) cls [(o, .inr (4, [.null, .null, .null, .int 0, .int 0, .int 0, .int 0, .int 0, .null, .null, .int 0, .int 0, .int 0, .int 0, .int 0, .int 0, .int 0, .int 0, .null])), (q_1, .inl (g_2, 220, .inr (.inl f_57)))] H := hP
  have hD : va_D A [(o, .inr (4, [.null, .null, .null, .int 0, .int 0, .int 0, .int 0, .int 0, .null, .null, .int 0, .int 0, .int 0, .int 0, .int 0, .int 0, .int 0, .int 0, .null])), (q_1, .inl (g_2, 220, .inr (.inl f_57)))] := hD
  refine lv_dup hx hb d_M_init_309 rfl ?_
  refine lv_bipush (v := 55) hx hb d_M_init_310 (by decide) ?_
  refine lv_lconst (v := 0) hx hb d_M_init_312 (by decide) ?_
  refine va_lastG hx hb hK hP hD hS 1 0 rfl rfl (by unfold vp_in; decide) d_M_init_313 (fun f_58 H locs hP hD hS => ?_)
  have hP : va_P (dC, dI) cls [(o, .inr (4, [.null, .null, .null, .int 0, .int 0, .int 0, .int 0, .int 0, .null, .null, .int 0, .int 0, .int 0, .int 0, .int 0, .int 0, .int 0, .int 0, .null])), (q_1, .inl (g_2, 220, .inr (.inl f_58)))] H := hP
  have hD : va_D A [(o, .inr (4, [.null, .null, .null, .int 0, .int 0, .int 0, .int 0, .int 0, .null, .null, .int 0, .int 0, .int 0, .int 0, .int 0, .int 0, .int 0, .int 0, .null])), (q_1, .inl (g_2, 220, .inr (.inl f_58)))] := hD
  refine lv_dup hx hb d_M_init_314 rfl ?_
  refine lv_bipush (v := 56) hx hb d_M_init_315 (by decide) ?_
  refine lv_ldc2 (v := 7522525836418875392) hx hb hown (ht _ k_578) d_M_init_317 ?_
  refine va_lastG hx hb hK hP hD hS 1 0 rfl rfl (by unfold vp_in; decide) d_M_init_320 (fun f_59 H locs hP hD hS => ?_)
  have hP : va_P (dC, dI) cls [(o, .inr (4, [.null, .null, .null, .int 0, .int 0, .int 0, .int 0, .int 0, .null, .null, .int 0, .int 0, .int 0, .int 0, .int 0, .int 0, .int 0, .int 0, .null])), (q_1, .inl (g_2, 220, .inr (.inl f_59)))] H := hP
  have hD : va_D A [(o, .inr (4, [.null, .null, .null, .int 0, .int 0, .int 0, .int 0, .int 0, .null, .null, .int 0, .int 0, .int 0, .int 0, .int 0, .int 0, .int 0, .int 0, .null])), (q_1, .inl (g_2, 220, .inr (.inl f_59)))] := hD
  refine lv_dup hx hb d_M_init_321 rfl ?_
  refine lv_bipush (v := 57) hx hb d_M_init_322 (by decide) ?_
  refine lv_lconst (v := 0) hx hb d_M_init_324 (by decide) ?_
  refine va_lastG hx hb hK hP hD hS 1 0 rfl rfl (by unfold vp_in; decide) d_M_init_325 (fun f_60 H locs hP hD hS => ?_)
  have hP : va_P (dC, dI) cls [(o, .inr (4, [.null, .null, .null, .int 0, .int 0, .int 0, .int 0, .int 0, .null, .null, .int 0, .int 0, .int 0, .int 0, .int 0, .int 0, .int 0, .int 0, .null])), (q_1, .inl (g_2, 220, .inr (.inl f_60)))] H := hP
  have hD : va_D A [(o, .inr (4, [.null, .null, .null, .int 0, .int 0, .int 0, .int 0, .int 0, .null, .null, .int 0, .int 0, .int 0, .int 0, .int 0, .int 0, .int 0, .int 0, .null])), (q_1, .inl (g_2, 220, .inr (.inl f_60)))] := hD
  refine lv_dup hx hb d_M_init_326 rfl ?_
  refine lv_bipush (v := 58) hx hb d_M_init_327 (by decide) ?_
  refine lv_lconst (v := 0) hx hb d_M_init_329 (by decide) ?_
  refine va_lastG hx hb hK hP hD hS 1 0 rfl rfl (by unfold vp_in; decide) d_M_init_330 (fun f_61 H locs hP hD hS => ?_)
  have hP : va_P (dC, dI) cls [(o, .inr (4, [.null, .null, .null, .int 0, .int 0, .int 0, .int 0, .int 0, .null, .null, .int 0, .int 0, .int 0, .int 0, .int 0, .int 0, .int 0, .int 0, .null])), (q_1, .inl (g_2, 220, .inr (.inl f_61)))] H := hP
  have hD : va_D A [(o, .inr (4, [.null, .null, .null, .int 0, .int 0, .int 0, .int 0, .int 0, .null, .null, .int 0, .int 0, .int 0, .int 0, .int 0, .int 0, .int 0, .int 0, .null])), (q_1, .inl (g_2, 220, .inr (.inl f_61)))] := hD
  refine lv_dup hx hb d_M_init_331 rfl ?_
  refine lv_bipush (v := 59) hx hb d_M_init_332 (by decide) ?_
  refine lv_lconst (v := 0) hx hb d_M_init_334 (by decide) ?_
  refine va_lastG hx hb hK hP hD hS 1 0 rfl rfl (by unfold vp_in; decide) d_M_init_335 (fun f_62 H locs hP hD hS => ?_)
  have hP : va_P (dC, dI) cls [(o, .inr (4, [.null, .null, .null, .int 0, .int 0, .int 0, .int 0, .int 0, .null, .null, .int 0, .int 0, .int 0, .int 0, .int 0, .int 0, .int 0, .int 0, .null])), (q_1, .inl (g_2, 220, .inr (.inl f_62)))] H := hP
  have hD : va_D A [(o, .inr (4, [.null, .null, .null, .int 0, .int 0, .int 0, .int 0, .int 0, .null, .null, .int 0, .int 0, .int 0, .int 0, .int 0, .int 0, .int 0, .int 0, .null])), (q_1, .inl (g_2, 220, .inr (.inl f_62)))] := hD
  refine lv_dup hx hb d_M_init_336 rfl ?_
  refine lv_bipush (v := 60) hx hb d_M_init_337 (by decide) ?_
  refine lv_ldc2 (v := 7017844561841189632) hx hb hown (ht _ k_579) d_M_init_339 ?_
  refine va_lastG hx hb hK hP hD hS 1 0 rfl rfl (by unfold vp_in; decide) d_M_init_342 (fun f_63 H locs hP hD hS => ?_)
  have hP : va_P (dC, dI) cls [(o, .inr (4, [.null, .null, .null, .int 0, .int 0, .int 0, .int 0, .int 0, .null, .null, .int 0, .int 0, .int 0, .int 0, .int 0, .int 0, .int 0, .int 0, .null])), (q_1, .inl (g_2, 220, .inr (.inl f_63)))] H := hP
  have hD : va_D A [(o, .inr (4, [.null, .null, .null, .int 0, .int 0, .int 0, .int 0, .int 0, .null, .null, .int 0, .int 0, .int 0, .int 0, .int 0, .int 0, .int 0, .int 0, .null])), (q_1, .inl (g_2, 220, .inr (.inl f_63)))] := hD
  refine lv_dup hx hb d_M_init_343 rfl ?_
  refine lv_bipush (v := 61) hx hb d_M_init_344 (by decide) ?_
  refine lv_lconst (v := 0) hx hb d_M_init_346 (by decide) ?_
  refine va_lastG hx hb hK hP hD hS 1 0 rfl rfl (by unfold vp_in; decide) d_M_init_347 (fun f_64 H locs hP hD hS => ?_)
  have hP : va_P (dC, dI) cls [(o, .inr (4, [.null, .null, .null, .int 0, .int 0, .int 0, .int 0, .int 0, .null, .null, .int 0, .int 0, .int 0, .int 0, .int 0, .int 0, .int 0, .int 0, .null])), (q_1, .inl (g_2, 220, .inr (.inl f_64)))] H := hP
  have hD : va_D A [(o, .inr (4, [.null, .null, .null, .int 0, .int 0, .int 0, .int 0, .int 0, .null, .null, .int 0, .int 0, .int 0, .int 0, .int 0, .int 0, .int 0, .int 0, .null])), (q_1, .inl (g_2, 220, .inr (.inl f_64)))] := hD
  refine lv_dup hx hb d_M_init_348 rfl ?_
  refine lv_bipush (v := 62) hx hb d_M_init_349 (by decide) ?_
  refine lv_lconst (v := 0) hx hb d_M_init_351 (by decide) ?_
  refine va_lastG hx hb hK hP hD hS 1 0 rfl rfl (by unfold vp_in; decide) d_M_init_352 (fun f_65 H locs hP hD hS => ?_)
  have hP : va_P (dC, dI) cls [(o, .inr (4, [.null, .null, .null, .int 0, .int 0, .int 0, .int 0, .int 0, .null, .null, .int 0, .int 0, .int 0, .int 0, .int 0, .int 0, .int 0, .int 0, .null])), (q_1, .inl (g_2, 220, .inr (.inl f_65)))] H := hP
  have hD : va_D A [(o, .inr (4, [.null, .null, .null, .int 0, .int 0, .int 0, .int 0, .int 0, .null, .null, .int 0, .int 0, .int 0, .int 0, .int 0, .int 0, .int 0, .int 0, .null])), (q_1, .inl (g_2, 220, .inr (.inl f_65)))] := hD
  refine lv_dup hx hb d_M_init_353 rfl ?_
  refine lv_bipush (v := 63) hx hb d_M_init_354 (by decide) ?_
  refine lv_lconst (v := 0) hx hb d_M_init_356 (by decide) ?_
  refine va_lastG hx hb hK hP hD hS 1 0 rfl rfl (by unfold vp_in; decide) d_M_init_357 (fun f_66 H locs hP hD hS => ?_)
  have hP : va_P (dC, dI) cls [(o, .inr (4, [.null, .null, .null, .int 0, .int 0, .int 0, .int 0, .int 0, .null, .null, .int 0, .int 0, .int 0, .int 0, .int 0, .int 0, .int 0, .int 0, .null])), (q_1, .inl (g_2, 220, .inr (.inl f_66)))] H := hP
  have hD : va_D A [(o, .inr (4, [.null, .null, .null, .int 0, .int 0, .int 0, .int 0, .int 0, .null, .null, .int 0, .int 0, .int 0, .int 0, .int 0, .int 0, .int 0, .int 0, .null])), (q_1, .inl (g_2, 220, .inr (.inl f_66)))] := hD
  refine lv_dup hx hb d_M_init_358 rfl ?_
  refine lv_bipush (v := 64) hx hb d_M_init_359 (by decide) ?_
  refine lv_ldc2 (v := 7308909423251910757) hx hb hown (ht _ k_580) d_M_init_361 ?_
  refine va_lastG hx hb hK hP hD hS 1 0 rfl rfl (by unfold vp_in; decide) d_M_init_364 (fun f_67 H locs hP hD hS => ?_)
  have hP : va_P (dC, dI) cls [(o, .inr (4, [.null, .null, .null, .int 0, .int 0, .int 0, .int 0, .int 0, .null, .null, .int 0, .int 0, .int 0, .int 0, .int 0, .int 0, .int 0, .int 0, .null])), (q_1, .inl (g_2, 220, .inr (.inl f_67)))] H := hP
  have hD : va_D A [(o, .inr (4, [.null, .null, .null, .int 0, .int 0, .int 0, .int 0, .int 0, .null, .null, .int 0, .int 0, .int 0, .int 0, .int 0, .int 0, .int 0, .int 0, .null])), (q_1, .inl (g_2, 220, .inr (.inl f_67)))] := hD
  refine lv_dup hx hb d_M_init_365 rfl ?_
  refine lv_bipush (v := 65) hx hb d_M_init_366 (by decide) ?_
  refine lv_lconst (v := 0) hx hb d_M_init_368 (by decide) ?_
  refine va_lastG hx hb hK hP hD hS 1 0 rfl rfl (by unfold vp_in; decide) d_M_init_369 (fun f_68 H locs hP hD hS => ?_)
  have hP : va_P (dC, dI) cls [(o, .inr (4, [.null, .null, .null, .int 0, .int 0, .int 0, .int 0, .int 0, .null, .null, .int 0, .int 0, .int 0, .int 0, .int 0, .int 0, .int 0, .int 0, .null])), (q_1, .inl (g_2, 220, .inr (.inl f_68)))] H := hP
  have hD : va_D A [(o, .inr (4, [.null, .null, .null, .int 0, .int 0, .int 0, .int 0, .int 0, .null, .null, .int 0, .int 0, .int 0, .int 0, .int 0, .int 0, .int 0, .int 0, .null])), (q_1, .inl (g_2, 220, .inr (.inl f_68)))] := hD
  refine lv_dup hx hb d_M_init_370 rfl ?_
  refine lv_bipush (v := 66) hx hb d_M_init_371 (by decide) ?_
  refine lv_lconst (v := 0) hx hb d_M_init_373 (by decide) ?_
  refine va_lastG hx hb hK hP hD hS 1 0 rfl rfl (by unfold vp_in; decide) d_M_init_374 (fun f_69 H locs hP hD hS => ?_)
  have hP : va_P (dC, dI) cls [(o, .inr (4, [.null, .null, .null, .int 0, .int 0, .int 0, .int 0, .int 0, .null, .null, .int 0, .int 0, .int 0, .int 0, .int 0, .int 0, .int 0, .int 0, .null])), (q_1, .inl (g_2, 220, .inr (.inl f_69)))] H := hP
  have hD : va_D A [(o, .inr (4, [.null, .null, .null, .int 0, .int 0, .int 0, .int 0, .int 0, .null, .null, .int 0, .int 0, .int 0, .int 0, .int 0, .int 0, .int 0, .int 0, .null])), (q_1, .inl (g_2, 220, .inr (.inl f_69)))] := hD
  refine lv_dup hx hb d_M_init_375 rfl ?_
  refine lv_bipush (v := 67) hx hb d_M_init_376 (by decide) ?_
  refine lv_lconst (v := 0) hx hb d_M_init_378 (by decide) ?_
  refine va_lastG hx hb hK hP hD hS 1 0 rfl rfl (by unfold vp_in; decide) d_M_init_379 (fun f_70 H locs hP hD hS => ?_)
  have hP : va_P (dC, dI) cls [(o, .inr (4, [.null, .null, .null, .int 0, .int 0, .int 0, .int 0, .int 0, .null, .null, .int 0, .int 0, .int 0, .int 0, .int 0, .int 0, .int 0, .int 0, .null])), (q_1, .inl (g_2, 220, .inr (.inl f_70)))] H := hP
  have hD : va_D A [(o, .inr (4, [.null, .null, .null, .int 0, .int 0, .int 0, .int 0, .int 0, .null, .null, .int 0, .int 0, .int 0, .int 0, .int 0, .int 0, .int 0, .int 0, .null])), (q_1, .inl (g_2, 220, .inr (.inl f_70)))] := hD
  refine lv_dup hx hb d_M_init_380 rfl ?_
  refine lv_bipush (v := 68) hx hb d_M_init_381 (by decide) ?_
  refine lv_ldc2 (v := 7521419736427620096) hx hb hown (ht _ k_581) d_M_init_383 ?_
  refine va_lastG hx hb hK hP hD hS 1 0 rfl rfl (by unfold vp_in; decide) d_M_init_386 (fun f_71 H locs hP hD hS => ?_)
  have hP : va_P (dC, dI) cls [(o, .inr (4, [.null, .null, .null, .int 0, .int 0, .int 0, .int 0, .int 0, .null, .null, .int 0, .int 0, .int 0, .int 0, .int 0, .int 0, .int 0, .int 0, .null])), (q_1, .inl (g_2, 220, .inr (.inl f_71)))] H := hP
  have hD : va_D A [(o, .inr (4, [.null, .null, .null, .int 0, .int 0, .int 0, .int 0, .int 0, .null, .null, .int 0, .int 0, .int 0, .int 0, .int 0, .int 0, .int 0, .int 0, .null])), (q_1, .inl (g_2, 220, .inr (.inl f_71)))] := hD
  refine lv_dup hx hb d_M_init_387 rfl ?_
  refine lv_bipush (v := 69) hx hb d_M_init_388 (by decide) ?_
  refine lv_lconst (v := 0) hx hb d_M_init_390 (by decide) ?_
  refine va_lastG hx hb hK hP hD hS 1 0 rfl rfl (by unfold vp_in; decide) d_M_init_391 (fun f_72 H locs hP hD hS => ?_)
  have hP : va_P (dC, dI) cls [(o, .inr (4, [.null, .null, .null, .int 0, .int 0, .int 0, .int 0, .int 0, .null, .null, .int 0, .int 0, .int 0, .int 0, .int 0, .int 0, .int 0, .int 0, .null])), (q_1, .inl (g_2, 220, .inr (.inl f_72)))] H := hP
  have hD : va_D A [(o, .inr (4, [.null, .null, .null, .int 0, .int 0, .int 0, .int 0, .int 0, .null, .null, .int 0, .int 0, .int 0, .int 0, .int 0, .int 0, .int 0, .int 0, .null])), (q_1, .inl (g_2, 220, .inr (.inl f_72)))] := hD
  refine lv_dup hx hb d_M_init_392 rfl ?_
  refine lv_bipush (v := 70) hx hb d_M_init_393 (by decide) ?_
  refine lv_lconst (v := 0) hx hb d_M_init_395 (by decide) ?_
  refine va_lastG hx hb hK hP hD hS 1 0 rfl rfl (by unfold vp_in; decide) d_M_init_396 (fun f_73 H locs hP hD hS => ?_)
  have hP : va_P (dC, dI) cls [(o, .inr (4, [.null, .null, .null, .int 0, .int 0, .int 0, .int 0, .int 0, .null, .null, .int 0, .int 0, .int 0, .int 0, .int 0, .int 0, .int 0, .int 0, .null])), (q_1, .inl (g_2, 220, .inr (.inl f_73)))] H := hP
  have hD : va_D A [(o, .inr (4, [.null, .null, .null, .int 0, .int 0, .int 0, .int 0, .int 0, .null, .null, .int 0, .int 0, .int 0, .int 0, .int 0, .int 0, .int 0, .int 0, .null])), (q_1, .inl (g_2, 220, .inr (.inl f_73)))] := hD
  refine lv_dup hx hb d_M_init_397 rfl ?_
  refine lv_bipush (v := 71) hx hb d_M_init_398 (by decide) ?_
  refine lv_lconst (v := 0) hx hb d_M_init_400 (by decide) ?_
  refine va_lastG hx hb hK hP hD hS 1 0 rfl rfl (by unfold vp_in; decide) d_M_init_401 (fun f_74 H locs hP hD hS => ?_)
  have hP : va_P (dC, dI) cls [(o, .inr (4, [.null, .null, .null, .int 0, .int 0, .int 0, .int 0, .int 0, .null, .null, .int 0, .int 0, .int 0, .int 0, .int 0, .int 0, .int 0, .int 0, .null])), (q_1, .inl (g_2, 220, .inr (.inl f_74)))] H := hP
  have hD : va_D A [(o, .inr (4, [.null, .null, .null, .int 0, .int 0, .int 0, .int 0, .int 0, .null, .null, .int 0, .int 0, .int 0, .int 0, .int 0, .int 0, .int 0, .int 0, .null])), (q_1, .inl (g_2, 220, .inr (.inl f_74)))] := hD
  refine lv_dup hx hb d_M_init_402 rfl ?_
  refine lv_bipush (v := 72) hx hb d_M_init_403 (by decide) ?_
  refine lv_ldc2 (v := 7311709939631849472) hx hb hown (ht _ k_582) d_M_init_405 ?_
  refine va_lastG hx hb hK hP hD hS 1 0 rfl rfl (by unfold vp_in; decide) d_M_init_408 (fun f_75 H locs hP hD hS => ?_)
  have hP : va_P (dC, dI) cls [(o, .inr (4, [.null, .null, .null, .int 0, .int 0, .int 0, .int 0, .int 0, .null, .null, .int 0, .int 0, .int 0, .int 0, .int 0, .int 0, .int 0, .int 0, .null])), (q_1, .inl (g_2, 220, .inr (.inl f_75)))] H := hP
  have hD : va_D A [(o, .inr (4, [.null, .null, .null, .int 0, .int 0, .int 0, .int 0, .int 0, .null, .null, .int 0, .int 0, .int 0, .int 0, .int 0, .int 0, .int 0, .int 0, .null])), (q_1, .inl (g_2, 220, .inr (.inl f_75)))] := hD
  refine lv_dup hx hb d_M_init_409 rfl ?_
  refine lv_bipush (v := 73) hx hb d_M_init_410 (by decide) ?_
  refine lv_lconst (v := 0) hx hb d_M_init_412 (by decide) ?_
  refine va_lastG hx hb hK hP hD hS 1 0 rfl rfl (by unfold vp_in; decide) d_M_init_413 (fun f_76 H locs hP hD hS => ?_)
  have hP : va_P (dC, dI) cls [(o, .inr (4, [.null, .null, .null, .int 0, .int 0, .int 0, .int 0, .int 0, .null, .null, .int 0, .int 0, .int 0, .int 0, .int 0, .int 0, .int 0, .int 0, .null])), (q_1, .inl (g_2, 220, .inr (.inl f_76)))] H := hP
  have hD : va_D A [(o, .inr (4, [.null, .null, .null, .int 0, .int 0, .int 0, .int 0, .int 0, .null, .null, .int 0, .int 0, .int 0, .int 0, .int 0, .int 0, .int 0, .int 0, .null])), (q_1, .inl (g_2, 220, .inr (.inl f_76)))] := hD
  refine lv_dup hx hb d_M_init_414 rfl ?_
  refine lv_bipush (v := 74) hx hb d_M_init_415 (by decide) ?_
  refine lv_lconst (v := 0) hx hb d_M_init_417 (by decide) ?_
  refine va_lastG hx hb hK hP hD hS 1 0 rfl rfl (by unfold vp_in; decide) d_M_init_418 (fun f_77 H locs hP hD hS => ?_)
  have hP : va_P (dC, dI) cls [(o, .inr (4, [.null, .null, .null, .int 0, .int 0, .int 0, .int 0, .int 0, .null, .null, .int 0, .int 0, .int 0, .int 0, .int 0, .int 0, .int 0, .int 0, .null])), (q_1, .inl (g_2, 220, .inr (.inl f_77)))] H := hP
  have hD : va_D A [(o, .inr (4, [.null, .null, .null, .int 0, .int 0, .int 0, .int 0, .int 0, .null, .null, .int 0, .int 0, .int 0, .int 0, .int 0, .int 0, .int 0, .int 0, .null])), (q_1, .inl (g_2, 220, .inr (.inl f_77)))] := hD
  refine lv_dup hx hb d_M_init_419 rfl ?_
  refine lv_bipush (v := 75) hx hb d_M_init_420 (by decide) ?_
  refine lv_lconst (v := 0) hx hb d_M_init_422 (by decide) ?_
  refine va_lastG hx hb hK hP hD hS 1 0 rfl rfl (by unfold vp_in; decide) d_M_init_423 (fun f_78 H locs hP hD hS => ?_)
  have hP : va_P (dC, dI) cls [(o, .inr (4, [.null, .null, .null, .int 0, .int 0, .int 0, .int 0, .int 0, .null, .null, .int 0, .int 0, .int 0, .int 0, .int 0, .int 0, .int 0, .int 0, .null])), (q_1, .inl (g_2, 220, .inr (.inl f_78)))] H := hP
  have hD : va_D A [(o, .inr (4, [.null, .null, .null, .int 0, .int 0, .int 0, .int 0, .int 0, .null, .null, .int 0, .int 0, .int 0, .int 0, .int 0, .int 0, .int 0, .int 0, .null])), (q_1, .inl (g_2, 220, .inr (.inl f_78)))] := hD
  refine lv_dup hx hb d_M_init_424 rfl ?_
  refine lv_bipush (v := 76) hx hb d_M_init_425 (by decide) ?_
  refine lv_ldc2 (v := 8316312761126617088) hx hb hown (ht _ k_583) d_M_init_427 ?_
  refine va_lastG hx hb hK hP hD hS 1 0 rfl rfl (by unfold vp_in; decide) d_M_init_430 (fun f_79 H locs hP hD hS => ?_)
  have hP : va_P (dC, dI) cls [(o, .inr (4, [.null, .null, .null, .int 0, .int 0, .int 0, .int 0, .int 0, .null, .null, .int 0, .int 0, .int 0, .int 0, .int 0, .int 0, .int 0, .int 0, .null])), (q_1, .inl (g_2, 220, .inr (.inl f_79)))] H := hP
  have hD : va_D A [(o, .inr (4, [.null, .null, .null, .int 0, .int 0, .int 0, .int 0, .int 0, .null, .null, .int 0, .int 0, .int 0, .int 0, .int 0, .int 0, .int 0, .int 0, .null])), (q_1, .inl (g_2, 220, .inr (.inl f_79)))] := hD
  refine lv_dup hx hb d_M_init_431 rfl ?_
  refine lv_bipush (v := 77) hx hb d_M_init_432 (by decide) ?_
  refine lv_lconst (v := 0) hx hb d_M_init_434 (by decide) ?_
  refine va_lastG hx hb hK hP hD hS 1 0 rfl rfl (by unfold vp_in; decide) d_M_init_435 (fun f_80 H locs hP hD hS => ?_)
  have hP : va_P (dC, dI) cls [(o, .inr (4, [.null, .null, .null, .int 0, .int 0, .int 0, .int 0, .int 0, .null, .null, .int 0, .int 0, .int 0, .int 0, .int 0, .int 0, .int 0, .int 0, .null])), (q_1, .inl (g_2, 220, .inr (.inl f_80)))] H := hP
  have hD : va_D A [(o, .inr (4, [.null, .null, .null, .int 0, .int 0, .int 0, .int 0, .int 0, .null, .null, .int 0, .int 0, .int 0, .int 0, .int 0, .int 0, .int 0, .int 0, .null])), (q_1, .inl (g_2, 220, .inr (.inl f_80)))] := hD
  refine lv_dup hx hb d_M_init_436 rfl ?_
  refine lv_bipush (v := 78) hx hb d_M_init_437 (by decide) ?_
  refine lv_lconst (v := 0) hx hb d_M_init_439 (by decide) ?_
  refine va_lastG hx hb hK hP hD hS 1 0 rfl rfl (by unfold vp_in; decide) d_M_init_440 (fun f_81 H locs hP hD hS => ?_)
  have hP : va_P (dC, dI) cls [(o, .inr (4, [.null, .null, .null, .int 0, .int 0, .int 0, .int 0, .int 0, .null, .null, .int 0, .int 0, .int 0, .int 0, .int 0, .int 0, .int 0, .int 0, .null])), (q_1, .inl (g_2, 220, .inr (.inl f_81)))] H := hP
  have hD : va_D A [(o, .inr (4, [.null, .null, .null, .int 0, .int 0, .int 0, .int 0, .int 0, .null, .null, .int 0, .int 0, .int 0, .int 0, .int 0, .int 0, .int 0, .int 0, .null])), (q_1, .inl (g_2, 220, .inr (.inl f_81)))] := hD
  refine lv_dup hx hb d_M_init_441 rfl ?_
  refine lv_bipush (v := 79) hx hb d_M_init_442 (by decide) ?_
  refine lv_lconst (v := 0) hx hb d_M_init_444 (by decide) ?_
  refine va_lastG hx hb hK hP hD hS 1 0 rfl rfl (by unfold vp_in; decide) d_M_init_445 (fun f_82 H locs hP hD hS => ?_)
  have hP : va_P (dC, dI) cls [(o, .inr (4, [.null, .null, .null, .int 0, .int 0, .int 0, .int 0, .int 0, .null, .null, .int 0, .int 0, .int 0, .int 0, .int 0, .int 0, .int 0, .int 0, .null])), (q_1, .inl (g_2, 220, .inr (.inl f_82)))] H := hP
  have hD : va_D A [(o, .inr (4, [.null, .null, .null, .int 0, .int 0, .int 0, .int 0, .int 0, .null, .null, .int 0, .int 0, .int 0, .int 0, .int 0, .int 0, .int 0, .int 0, .null])), (q_1, .inl (g_2, 220, .inr (.inl f_82)))] := hD
  refine lv_dup hx hb d_M_init_446 rfl ?_
  refine lv_bipush (v := 80) hx hb d_M_init_447 (by decide) ?_
  refine lv_ldc2 (v := 7020105144872206336) hx hb hown (ht _ k_584) d_M_init_449 ?_
  refine va_lastG hx hb hK hP hD hS 1 0 rfl rfl (by unfold vp_in; decide) d_M_init_452 (fun f_83 H locs hP hD hS => ?_)
  have hP : va_P (dC, dI) cls [(o, .inr (4, [.null, .null, .null, .int 0, .int 0, .int 0, .int 0, .int 0, .null, .null, .int 0, .int 0, .int 0, .int 0, .int 0, .int 0, .int 0, .int 0, .null])), (q_1, .inl (g_2, 220, .inr (.inl f_83)))] H := hP
  have hD : va_D A [(o, .inr (4, [.null, .null, .null, .int 0, .int 0, .int 0, .int 0, .int 0, .null, .null, .int 0, .int 0, .int 0, .int 0, .int 0, .int 0, .int 0, .int 0, .null])), (q_1, .inl (g_2, 220, .inr (.inl f_83)))] := hD
  refine lv_dup hx hb d_M_init_453 rfl ?_
  refine lv_bipush (v := 81) hx hb d_M_init_454 (by decide) ?_
  refine lv_lconst (v := 0) hx hb d_M_init_456 (by decide) ?_
  refine va_lastG hx hb hK hP hD hS 1 0 rfl rfl (by unfold vp_in; decide) d_M_init_457 (fun f_84 H locs hP hD hS => ?_)
  have hP : va_P (dC, dI) cls [(o, .inr (4, [.null, .null, .null, .int 0, .int 0, .int 0, .int 0, .int 0, .null, .null, .int 0, .int 0, .int 0, .int 0, .int 0, .int 0, .int 0, .int 0, .null])), (q_1, .inl (g_2, 220, .inr (.inl f_84)))] H := hP
  have hD : va_D A [(o, .inr (4, [.null, .null, .null, .int 0, .int 0, .int 0, .int 0, .int 0, .null, .null, .int 0, .int 0, .int 0, .int 0, .int 0, .int 0, .int 0, .int 0, .null])), (q_1, .inl (g_2, 220, .inr (.inl f_84)))] := hD
  refine lv_dup hx hb d_M_init_458 rfl ?_
  refine lv_bipush (v := 82) hx hb d_M_init_459 (by decide) ?_
  refine lv_lconst (v := 0) hx hb d_M_init_461 (by decide) ?_
  refine va_lastG hx hb hK hP hD hS 1 0 rfl rfl (by unfold vp_in; decide) d_M_init_462 (fun f_85 H locs hP hD hS => ?_)
  have hP : va_P (dC, dI) cls [(o, .inr (4, [.null, .null, .null, .int 0, .int 0, .int 0, .int 0, .int 0, .null, .null, .int 0, .int 0, .int 0, .int 0, .int 0, .int 0, .int 0, .int 0, .null])), (q_1, .inl (g_2, 220, .inr (.inl f_85)))] H := hP
  have hD : va_D A [(o, .inr (4, [.null, .null, .null, .int 0, .int 0, .int 0, .int 0, .int 0, .null, .null, .int 0, .int 0, .int 0, .int 0, .int 0, .int 0, .int 0, .int 0, .null])), (q_1, .inl (g_2, 220, .inr (.inl f_85)))] := hD
  refine lv_dup hx hb d_M_init_463 rfl ?_
  refine lv_bipush (v := 83) hx hb d_M_init_464 (by decide) ?_
  refine lv_lconst (v := 0) hx hb d_M_init_466 (by decide) ?_
  refine va_lastG hx hb hK hP hD hS 1 0 rfl rfl (by unfold vp_in; decide) d_M_init_467 (fun f_86 H locs hP hD hS => ?_)
  have hP : va_P (dC, dI) cls [(o, .inr (4, [.null, .null, .null, .int 0, .int 0, .int 0, .int 0, .int 0, .null, .null, .int 0, .int 0, .int 0, .int 0, .int 0, .int 0, .int 0, .int 0, .null])), (q_1, .inl (g_2, 220, .inr (.inl f_86)))] H := hP
  have hD : va_D A [(o, .inr (4, [.null, .null, .null, .int 0, .int 0, .int 0, .int 0, .int 0, .null, .null, .int 0, .int 0, .int 0, .int 0, .int 0, .int 0, .int 0, .int 0, .null])), (q_1, .inl (g_2, 220, .inr (.inl f_86)))] := hD
  refine lv_dup hx hb d_M_init_468 rfl ?_
  refine lv_bipush (v := 84) hx hb d_M_init_469 (by decide) ?_
  refine lv_ldc2 (v := 7020682388476788736) hx hb hown (ht _ k_585) d_M_init_471 ?_
  refine va_lastG hx hb hK hP hD hS 1 0 rfl rfl (by unfold vp_in; decide) d_M_init_474 (fun f_87 H locs hP hD hS => ?_)
  have hP : va_P (dC, dI) cls [(o, .inr (4, [.null, .null, .null, .int 0, .int 0, .int 0, .int 0, .int 0, .null, .null, .int 0, .int 0, .int 0, .int 0, .int 0, .int 0, .int 0, .int 0, .null])), (q_1, .inl (g_2, 220, .inr (.inl f_87)))] H := hP
  have hD : va_D A [(o, .inr (4, [.null, .null, .null, .int 0, .int 0, .int 0, .int 0, .int 0, .null, .null, .int 0, .int 0, .int 0, .int 0, .int 0, .int 0, .int 0, .int 0, .null])), (q_1, .inl (g_2, 220, .inr (.inl f_87)))] := hD
  refine lv_dup hx hb d_M_init_475 rfl ?_
  refine lv_bipush (v := 85) hx hb d_M_init_476 (by decide) ?_
  refine lv_lconst (v := 0) hx hb d_M_init_478 (by decide) ?_
  refine va_lastG hx hb hK hP hD hS 1 0 rfl rfl (by unfold vp_in; decide) d_M_init_479 (fun f_88 H locs hP hD hS => ?_)
  have hP : va_P (dC, dI) cls [(o, .inr (4, [.null, .null, .null, .int 0, .int 0, .int 0, .int 0, .int 0, .null, .null, .int 0, .int 0, .int 0, .int 0, .int 0, .int 0, .int 0, .int 0, .null])), (q_1, .inl (g_2, 220, .inr (.inl f_88)))] H := hP
  have hD : va_D A [(o, .inr (4, [.null, .null, .null, .int 0, .int 0, .int 0, .int 0, .int 0, .null, .null, .int 0, .int 0, .int 0, .int 0, .int 0, .int 0, .int 0, .int 0, .null])), (q_1, .inl (g_2, 220, .inr (.inl f_88)))] := hD
  refine lv_dup hx hb d_M_init_480 rfl ?_
  refine lv_bipush (v := 86) hx hb d_M_init_481 (by decide) ?_
  refine lv_lconst (v := 0) hx hb d_M_init_483 (by decide) ?_
  refine va_lastG hx hb hK hP hD hS 1 0 rfl rfl (by unfold vp_in; decide) d_M_init_484 (fun f_89 H locs hP hD hS => ?_)
  have hP : va_P (dC, dI) cls [(o, .inr (4, [.null, .null, .null, .int 0, .int 0, .int 0, .int 0, .int 0, .null, .null, .int 0, .int 0, .int 0, .int 0, .int 0, .int 0, .int 0, .int 0, .null])), (q_1, .inl (g_2, 220, .inr (.inl f_89)))] H := hP
  have hD : va_D A [(o, .inr (4, [.null, .null, .null, .int 0, .int 0, .int 0, .int 0, .int 0, .null, .null, .int 0, .int 0, .int 0, .int 0, .int 0, .int 0, .int 0, .int 0, .null])), (q_1, .inl (g_2, 220, .inr (.inl f_89)))] := hD
  refine lv_dup hx hb d_M_init_485 rfl ?_
  refine lv_bipush (v := 87) hx hb d_M_init_486 (by decide) ?_
  refine lv_lconst (v := 0) hx hb d_M_init_488 (by decide) ?_
  refine va_lastG hx hb hK hP hD hS 1 0 rfl rfl (by unfold vp_in; decide) d_M_init_489 (fun f_90 H locs hP hD hS => ?_)
  have hP : va_P (dC, dI) cls [(o, .inr (4, [.null, .null, .null, .int 0, .int 0, .int 0, .int 0, .int 0, .null, .null, .int 0, .int 0, .int 0, .int 0, .int 0, .int 0, .int 0, .int 0, .null])), (q_1, .inl (g_2, 220, .inr (.inl f_90)))] H := hP
  have hD : va_D A [(o, .inr (4, [.null, .null, .null, .int 0, .int 0, .int 0, .int 0, .int 0, .null, .null, .int 0, .int 0, .int 0, .int 0, .int 0, .int 0, .int 0, .int 0, .null])), (q_1, .inl (g_2, 220, .inr (.inl f_90)))] := hD
  refine lv_dup hx hb d_M_init_490 rfl ?_
  refine lv_bipush (v := 88) hx hb d_M_init_491 (by decide) ?_
  refine lv_ldc2 (v := 7957706609935777792) hx hb hown (ht _ k_586) d_M_init_493 ?_
  refine va_lastG hx hb hK hP hD hS 1 0 rfl rfl (by unfold vp_in; decide) d_M_init_496 (fun f_91 H locs hP hD hS => ?_)
  have hP : va_P (dC, dI) cls [(o, .inr (4, [.null, .null, .null, .int 0, .int 0, .int 0, .int 0, .int 0, .null, .null, .int 0, .int 0, .int 0, .int 0, .int 0, .int 0, .int 0, .int 0, .null])), (q_1, .inl (g_2, 220, .inr (.inl f_91)))] H := hP
  have hD : va_D A [(o, .inr (4, [.null, .null, .null, .int 0, .int 0, .int 0, .int 0, .int 0, .null, .null, .int 0, .int 0, .int 0, .int 0, .int 0, .int 0, .int 0, .int 0, .null])), (q_1, .inl (g_2, 220, .inr (.inl f_91)))] := hD
  refine lv_dup hx hb d_M_init_497 rfl ?_
  refine lv_bipush (v := 89) hx hb d_M_init_498 (by decide) ?_
  refine lv_lconst (v := 0) hx hb d_M_init_500 (by decide) ?_
  refine va_lastG hx hb hK hP hD hS 1 0 rfl rfl (by unfold vp_in; decide) d_M_init_501 (fun f_92 H locs hP hD hS => ?_)
  have hP : va_P (dC, dI) cls [(o, .inr (4, [.null, .null, .null, .int 0, .int 0, .int 0, .int 0, .int 0, .null, .null, .int 0, .int 0, .int 0, .int 0, .int 0, .int 0, .int 0, .int 0, .null])), (q_1, .inl (g_2, 220, .inr (.inl f_92)))] H := hP
  have hD : va_D A [(o, .inr (4, [.null, .null, .null, .int 0, .int 0, .int 0, .int 0, .int 0, .null, .null, .int 0, .int 0, .int 0, .int 0, .int 0, .int 0, .int 0, .int 0, .null])), (q_1, .inl (g_2, 220, .inr (.inl f_92)))] := hD
  refine lv_dup hx hb d_M_init_502 rfl ?_
  refine lv_bipush (v := 90) hx hb d_M_init_503 (by decide) ?_
  refine lv_lconst (v := 0) hx hb d_M_init_505 (by decide) ?_
  refine va_lastG hx hb hK hP hD hS 1 0 rfl rfl (by unfold vp_in; decide) d_M_init_506 (fun f_93 H locs hP hD hS => ?_)
  have hP : va_P (dC, dI) cls [(o, .inr (4, [.null, .null, .null, .int 0, .int 0, .int 0, .int 0, .int 0, .null, .null, .int 0, .int 0, .int 0, .int 0, .int 0, .int 0, .int 0, .int 0, .null])), (q_1, .inl (g_2, 220, .inr (.inl f_93)))] H := hP
  have hD : va_D A [(o, .inr (4, [.null, .null, .null, .int 0, .int 0, .int 0, .int 0, .int 0, .null, .null, .int 0, .int 0, .int 0, .int 0, .int 0, .int 0, .int 0, .int 0, .null])), (q_1, .inl (g_2, 220, .inr (.inl f_93)))] := hD
  refine lv_dup hx hb d_M_init_507 rfl ?_
  refine lv_bipush (v := 91) hx hb d_M_init_508 (by decide) ?_
  refine lv_lconst (v := 0) hx hb d_M_init_510 (by decide) ?_
  refine va_lastG hx hb hK hP hD hS 1 0 rfl rfl (by unfold vp_in; decide) d_M_init_511 (fun f_94 H locs hP hD hS => ?_)
  have hP : va_P (dC, dI) cls [(o, .inr (4, [.null, .null, .null, .int 0, .int 0, .int 0, .int 0, .int 0, .null, .null, .int 0, .int 0, .int 0, .int 0, .int 0, .int 0, .int 0, .int 0, .null])), (q_1, .inl (g_2, 220, .inr (.inl f_94)))] H := hP
  have hD : va_D A [(o, .inr (4, [.null, .null, .null, .int 0, .int 0, .int 0, .int 0, .int 0, .null, .null, .int 0, .int 0, .int 0, .int 0, .int 0, .int 0, .int 0, .int 0, .null])), (q_1, .inl (g_2, 220, .inr (.inl f_94)))] := hD
  refine lv_dup hx hb d_M_init_512 rfl ?_
  refine lv_bipush (v := 92) hx hb d_M_init_513 (by decide) ?_
  refine lv_ldc2 (v := 8390898132396802048) hx hb hown (ht _ k_587) d_M_init_515 ?_
  refine va_lastG hx hb hK hP hD hS 1 0 rfl rfl (by unfold vp_in; decide) d_M_init_518 (fun f_95 H locs hP hD hS => ?_)
  have hP : va_P (dC, dI) cls [(o, .inr (4, [.null, .null, .null, .int 0, .int 0, .int 0, .int 0, .int 0, .null, .null, .int 0, .int 0, .int 0, .int 0, .int 0, .int 0, .int 0, .int 0, .null])), (q_1, .inl (g_2, 220, .inr (.inl f_95)))] H := hP
  have hD : va_D A [(o, .inr (4, [.null, .null, .null, .int 0, .int 0, .int 0, .int 0, .int 0, .null, .null, .int 0, .int 0, .int 0, .int 0, .int 0, .int 0, .int 0, .int 0, .null])), (q_1, .inl (g_2, 220, .inr (.inl f_95)))] := hD
  refine lv_dup hx hb d_M_init_519 rfl ?_
  refine lv_bipush (v := 93) hx hb d_M_init_520 (by decide) ?_
  refine lv_lconst (v := 0) hx hb d_M_init_522 (by decide) ?_
  refine va_lastG hx hb hK hP hD hS 1 0 rfl rfl (by unfold vp_in; decide) d_M_init_523 (fun f_96 H locs hP hD hS => ?_)
  have hP : va_P (dC, dI) cls [(o, .inr (4, [.null, .null, .null, .int 0, .int 0, .int 0, .int 0, .int 0, .null, .null, .int 0, .int 0, .int 0, .int 0, .int 0, .int 0, .int 0, .int 0, .null])), (q_1, .inl (g_2, 220, .inr (.inl f_96)))] H := hP
  have hD : va_D A [(o, .inr (4, [.null, .null, .null, .int 0, .int 0, .int 0, .int 0, .int 0, .null, .null, .int 0, .int 0, .int 0, .int 0, .int 0, .int 0, .int 0, .int 0, .null])), (q_1, .inl (g_2, 220, .inr (.inl f_96)))] := hD
  refine lv_dup hx hb d_M_init_524 rfl ?_
  refine lv_bipush (v := 94) hx hb d_M_init_525 (by decide) ?_
  refine lv_lconst (v := 0) hx hb d_M_init_527 (by decide) ?_
  refine va_lastG hx hb hK hP hD hS 1 0 rfl rfl (by unfold vp_in; decide) d_M_init_528 (fun f_97 H locs hP hD hS => ?_)
  have hP : va_P (dC, dI) cls [(o, .inr (4, [.null, .null, .null, .int 0, .int 0, .int 0, .int 0, .int 0, .null, .null, .int 0, .int 0, .int 0, .int 0, .int 0, .int 0, .int 0, .int 0, .null])), (q_1, .inl (g_2, 220, .inr (.inl f_97)))] H := hP
  have hD : va_D A [(o, .inr (4, [.null, .null, .null, .int 0, .int 0, .int 0, .int 0, .int 0, .null, .null, .int 0, .int 0, .int 0, .int 0, .int 0, .int 0, .int 0, .int 0, .null])), (q_1, .inl (g_2, 220, .inr (.inl f_97)))] := hD
  refine lv_dup hx hb d_M_init_529 rfl ?_
  refine lv_bipush (v := 95) hx hb d_M_init_530 (by decide) ?_
  refine lv_lconst (v := 0) hx hb d_M_init_532 (by decide) ?_
  refine va_lastG hx hb hK hP hD hS 1 0 rfl rfl (by unfold vp_in; decide) d_M_init_533 (fun f_98 H locs hP hD hS => ?_)
  have hP : va_P (dC, dI) cls [(o, .inr (4, [.null, .null, .null, .int 0, .int 0, .int 0, .int 0, .int 0, .null, .null, .int 0, .int 0, .int 0, .int 0, .int 0, .int 0, .int 0, .int 0, .null])), (q_1, .inl (g_2, 220, .inr (.inl f_98)))] H := hP
  have hD : va_D A [(o, .inr (4, [.null, .null, .null, .int 0, .int 0, .int 0, .int 0, .int 0, .null, .null, .int 0, .int 0, .int 0, .int 0, .int 0, .int 0, .int 0, .int 0, .null])), (q_1, .inl (g_2, 220, .inr (.inl f_98)))] := hD
  refine lv_dup hx hb d_M_init_534 rfl ?_
  refine lv_bipush (v := 96) hx hb d_M_init_535 (by decide) ?_
  refine lv_ldc2 (v := 7377296907481120768) hx hb hown (ht _ k_588) d_M_init_537 ?_
  refine va_lastG hx hb hK hP hD hS 1 0 rfl rfl (by unfold vp_in; decide) d_M_init_540 (fun f_99 H locs hP hD hS => ?_)
  have hP : va_P (dC, dI) cls [(o, .inr (4, [.null, .null, .null, .int 0, .int 0, .int 0, .int 0, .int 0, .null, .null, .int 0, .int 0, .int 0, .int 0, .int 0, .int 0, .int 0, .int 0, .null])), (q_1, .inl (g_2, 220, .inr (.inl f_99)))] H := hP
  have hD : va_D A [(o, .inr (4, [.null, .null, .null, .int 0, .int 0, .int 0, .int 0, .int 0, .null, .null, .int 0, .int 0, .int 0, .int 0, .int 0, .int 0, .int 0, .int 0, .null])), (q_1, .inl (g_2, 220, .inr (.inl f_99)))] := hD
  refine lv_dup hx hb d_M_init_541 rfl ?_
  refine lv_bipush (v := 97) hx hb d_M_init_542 (by decide) ?_
  refine lv_lconst (v := 0) hx hb d_M_init_544 (by decide) ?_
  refine va_lastG hx hb hK hP hD hS 1 0 rfl rfl (by unfold vp_in; decide) d_M_init_545 (fun f_100 H locs hP hD hS => ?_)
  have hP : va_P (dC, dI) cls [(o, .inr (4, [.null, .null, .null, .int 0, .int 0, .int 0, .int 0, .int 0, .null, .null, .int 0, .int 0, .int 0, .int 0, .int 0, .int 0, .int 0, .int 0, .null])), (q_1, .inl (g_2, 220, .inr (.inl f_100)))] H := hP
  have hD : va_D A [(o, .inr (4, [.null, .null, .null, .int 0, .int 0, .int 0, .int 0, .int 0, .null, .null, .int 0, .int 0, .int 0, .int 0, .int 0, .int 0, .int 0, .int 0, .null])), (q_1, .inl (g_2, 220, .inr (.inl f_100)))] := hD
  refine lv_dup hx hb d_M_init_546 rfl ?_
  refine lv_bipush (v := 98) hx hb d_M_init_547 (by decide) ?_
  refine lv_lconst (v := 0) hx hb d_M_init_549 (by decide) ?_
  refine va_lastG hx hb hK hP hD hS 1 0 rfl rfl (by unfold vp_in; decide) d_M_init_550 (fun f_101 H locs hP hD hS => ?_)
  have hP : va_P (dC, dI) cls [(o, .inr (4, [.null, .null, .null, .int 0, .int 0, .int 0, .int 0, .int 0, .null, .null, .int 0, .int 0, .int 0, .int 0, .int 0, .int 0, .int 0, .int 0, .null])), (q_1, .inl (g_2, 220, .inr (.inl f_101)))] H := hP
  have hD : va_D A [(o, .inr (4, [.null, .null, .null, .int 0, .int 0, .int 0, .int 0, .int 0, .null, .null, .int 0, .int 0, .int 0, .int 0, .int 0, .int 0, .int 0, .int 0, .null])), (q_1, .inl (g_2, 220, .inr (.inl f_101)))] := hD
  refine lv_dup hx hb d_M_init_551 rfl ?_
  refine lv_bipush (v := 99) hx hb d_M_init_552 (by decide) ?_
  refine lv_lconst (v := 0) hx hb d_M_init_554 (by decide) ?_
  refine va_lastG hx hb hK hP hD hS 1 0 rfl rfl (by unfold vp_in; decide) d_M_init_555 (fun f_102 H locs hP hD hS => ?_)
  have hP : va_P (dC, dI) cls [(o, .inr (4, [.null, .null, .null, .int 0, .int 0, .int 0, .int 0, .int 0, .null, .null, .int 0, .int 0, .int 0, .int 0, .int 0, .int 0, .int 0, .int 0, .null])), (q_1, .inl (g_2, 220, .inr (.inl f_102)))] H := hP
  have hD : va_D A [(o, .inr (4, [.null, .null, .null, .int 0, .int 0, .int 0, .int 0, .int 0, .null, .null, .int 0, .int 0, .int 0, .int 0, .int 0, .int 0, .int 0, .int 0, .null])), (q_1, .inl (g_2, 220, .inr (.inl f_102)))] := hD
  refine lv_dup hx hb d_M_init_556 rfl ?_
  refine lv_bipush (v := 100) hx hb d_M_init_557 (by decide) ?_
  refine lv_ldc2 (v := 7380380986292305920) hx hb hown (ht _ k_589) d_M_init_559 ?_
  refine va_lastG hx hb hK hP hD hS 1 0 rfl rfl (by unfold vp_in; decide) d_M_init_562 (fun f_103 H locs hP hD hS => ?_)
  have hP : va_P (dC, dI) cls [(o, .inr (4, [.null, .null, .null, .int 0, .int 0, .int 0, .int 0, .int 0, .null, .null, .int 0, .int 0, .int 0, .int 0, .int 0, .int 0, .int 0, .int 0, .null])), (q_1, .inl (g_2, 220, .inr (.inl f_103)))] H := hP
  have hD : va_D A [(o, .inr (4, [.null, .null, .null, .int 0, .int 0, .int 0, .int 0, .int 0, .null, .null, .int 0, .int 0, .int 0, .int 0, .int 0, .int 0, .int 0, .int 0, .null])), (q_1, .inl (g_2, 220, .inr (.inl f_103)))] := hD
  refine lv_dup hx hb d_M_init_563 rfl ?_
  refine lv_bipush (v := 101) hx hb d_M_init_564 (by decide) ?_
  refine lv_lconst (v := 0) hx hb d_M_init_566 (by decide) ?_
  refine va_lastG hx hb hK hP hD hS 1 0 rfl rfl (by unfold vp_in; decide) d_M_init_567 (fun f_104 H locs hP hD hS => ?_)
  have hP : va_P (dC, dI) cls [(o, .inr (4, [.null, .null, .null, .int 0, .int 0, .int 0, .int 0, .int 0, .null, .null, .int 0, .int 0, .int 0, .int 0, .int 0, .int 0, .int 0, .int 0, .null])), (q_1, .inl (g_2, 220, .inr (.inl f_104)))] H := hP
  have hD : va_D A [(o, .inr (4, [.null, .null, .null, .int 0, .int 0, .int 0, .int 0, .int 0, .null, .null, .int 0, .int 0, .int 0, .int 0, .int 0, .int 0, .int 0, .int 0, .null])), (q_1, .inl (g_2, 220, .inr (.inl f_104)))] := hD
  refine lv_dup hx hb d_M_init_568 rfl ?_
  refine lv_bipush (v := 102) hx hb d_M_init_569 (by decide) ?_
  refine lv_lconst (v := 0) hx hb d_M_init_571 (by decide) ?_
  refine va_lastG hx hb hK hP hD hS 1 0 rfl rfl (by unfold vp_in; decide) d_M_init_572 (fun f_105 H locs hP hD hS => ?_)
  have hP : va_P (dC, dI) cls [(o, .inr (4, [.null, .null, .null, .int 0, .int 0, .int 0, .int 0, .int 0, .null, .null, .int 0, .int 0, .int 0, .int 0, .int 0, .int 0, .int 0, .int 0, .null])), (q_1, .inl (g_2, 220, .inr (.inl f_105)))] H := hP
  have hD : va_D A [(o, .inr (4, [.null, .null, .null, .int 0, .int 0, .int 0, .int 0, .int 0, .null, .null, .int 0, .int 0, .int 0, .int 0, .int 0, .int 0, .int 0, .int 0, .null])), (q_1, .inl (g_2, 220, .inr (.inl f_105)))] := hD
  refine lv_dup hx hb d_M_init_573 rfl ?_
  refine lv_bipush (v := 103) hx hb d_M_init_574 (by decide) ?_
  refine lv_lconst (v := 0) hx hb d_M_init_576 (by decide) ?_
  refine va_lastG hx hb hK hP hD hS 1 0 rfl rfl (by unfold vp_in; decide) d_M_init_577 (fun f_106 H locs hP hD hS => ?_)
  have hP : va_P (dC, dI) cls [(o, .inr (4, [.null, .null, .null, .int 0, .int 0, .int 0, .int 0, .int 0, .null, .null, .int 0, .int 0, .int 0, .int 0, .int 0, .int 0, .int 0, .int 0, .null])), (q_1, .inl (g_2, 220, .inr (.inl f_106)))] H := hP
  have hD : va_D A [(o, .inr (4, [.null, .null, .null, .int 0, .int 0, .int 0, .int 0, .int 0, .null, .null, .int 0, .int 0, .int 0, .int 0, .int 0, .int 0, .int 0, .int 0, .null])), (q_1, .inl (g_2, 220, .inr (.inl f_106)))] := hD
  refine lv_dup hx hb d_M_init_578 rfl ?_
  refine lv_bipush (v := 104) hx hb d_M_init_579 (by decide) ?_
  refine lv_ldc2 (v := 7165069197163102208) hx hb hown (ht _ k_590) d_M_init_581 ?_
  refine va_lastG hx hb hK hP hD hS 1 0 rfl rfl (by unfold vp_in; decide) d_M_init_584 (fun f_107 H locs hP hD hS => ?_)
  have hP : va_P (dC, dI) cls [(o, .inr (4, [.null, .null, .null, .int 0, .int 0, .int 0, .int 0, .int 0, .null, .null, .int 0, .int 0, .int 0, .int 0, .int 0, .int 0, .int 0, .int 0, .null])), (q_1, .inl (g_2, 220, .inr (.inl f_107)))] H := hP
  have hD : va_D A [(o, .inr (4, [.null, .null, .null, .int 0, .int 0, .int 0, .int 0, .int 0, .null, .null, .int 0, .int 0, .int 0, .int 0, .int 0, .int 0, .int 0, .int 0, .null])), (q_1, .inl (g_2, 220, .inr (.inl f_107)))] := hD
  refine lv_dup hx hb d_M_init_585 rfl ?_
  refine lv_bipush (v := 105) hx hb d_M_init_586 (by decide) ?_
  refine lv_lconst (v := 0) hx hb d_M_init_588 (by decide) ?_
  refine va_lastG hx hb hK hP hD hS 1 0 rfl rfl (by unfold vp_in; decide) d_M_init_589 (fun f_108 H locs hP hD hS => ?_)
  have hP : va_P (dC, dI) cls [(o, .inr (4, [.null, .null, .null, .int 0, .int 0, .int 0, .int 0, .int 0, .null, .null, .int 0, .int 0, .int 0, .int 0, .int 0, .int 0, .int 0, .int 0, .null])), (q_1, .inl (g_2, 220, .inr (.inl f_108)))] H := hP
  have hD : va_D A [(o, .inr (4, [.null, .null, .null, .int 0, .int 0, .int 0, .int 0, .int 0, .null, .null, .int 0, .int 0, .int 0, .int 0, .int 0, .int 0, .int 0, .int 0, .null])), (q_1, .inl (g_2, 220, .inr (.inl f_108)))] := hD
  refine lv_dup hx hb d_M_init_590 rfl ?_
  refine lv_bipush (v := 106) hx hb d_M_init_591 (by decide) ?_
  refine lv_lconst (v := 0) hx hb d_M_init_593 (by decide) ?_
  refine va_lastG hx hb hK hP hD hS 1 0 rfl rfl (by unfold vp_in; decide) d_M_init_594 (fun f_109 H locs hP hD hS => ?_)
  have hP : va_P (dC, dI) cls [(o, .inr (4, [.null, .null, .null, .int 0, .int 0, .int 0, .int 0, .int 0, .null, .null, .int 0, .int 0, .int 0, .int 0, .int 0, .int 0, .int 0, .int 0, .null])), (q_1, .inl (g_2, 220, .inr (.inl f_109)))] H := hP
  have hD : va_D A [(o, .inr (4, [.null, .null, .null, .int 0, .int 0, .int 0, .int 0, .int 0, .null, .null, .int 0, .int 0, .int 0, .int 0, .int 0, .int 0, .int 0, .int 0, .null])), (q_1, .inl (g_2, 220, .inr (.inl f_109)))] := hD
  refine lv_dup hx hb d_M_init_595 rfl ?_
  refine lv_bipush (v := 107) hx hb d_M_init_596 (by decide) ?_
  refine lv_lconst (v := 0) hx hb d_M_init_598 (by decide) ?_
  refine va_lastG hx hb hK hP hD hS 1 0 rfl rfl (by unfold vp_in; decide) d_M_init_599 (fun f_110 H locs hP hD hS => ?_)
  have hP : va_P (dC, dI) cls [(o, .inr (4, [.null, .null, .null, .int 0, .int 0, .int 0, .int 0, .int 0, .null, .null, .int 0, .int 0, .int 0, .int 0, .int 0, .int 0, .int 0, .int 0, .null])), (q_1, .inl (g_2, 220, .inr (.inl f_110)))] H := hP
  have hD : va_D A [(o, .inr (4, [.null, .null, .null, .int 0, .int 0, .int 0, .int 0, .int 0, .null, .null, .int 0, .int 0, .int 0, .int 0, .int 0, .int 0, .int 0, .int 0, .null])), (q_1, .inl (g_2, 220, .inr (.inl f_110)))] := hD
  refine lv_dup hx hb d_M_init_600 rfl ?_
  refine lv_bipush (v := 108) hx hb d_M_init_601 (by decide) ?_
  refine lv_ldc2 (v := 7233196011361927168) hx hb hown (ht _ k_591) d_M_init_603 ?_
  refine va_lastG hx hb hK hP hD hS 1 0 rfl rfl (by unfold vp_in; decide) d_M_init_606 (fun f_111 H locs hP hD hS => ?_)
  have hP : va_P (dC, dI) cls [(o, .inr (4, [.null, .null, .null, .int 0, .int 0, .int 0, .int 0, .int 0, .null, .null, .int 0, .int 0, .int 0, .int 0, .int 0, .int 0, .int 0, .int 0, .null])), (q_1, .inl (g_2, 220, .inr (.inl f_111)))] H := hP
  have hD : va_D A [(o, .inr (4, [.null, .null, .null, .int 0, .int 0, .int 0, .int 0, .int 0, .null, .null, .int 0, .int 0, .int 0, .int 0, .int 0, .int 0, .int 0, .int 0, .null])), (q_1, .inl (g_2, 220, .inr (.inl f_111)))] := hD
  refine lv_dup hx hb d_M_init_607 rfl ?_
  refine lv_bipush (v := 109) hx hb d_M_init_608 (by decide) ?_
  refine lv_lconst (v := 0) hx hb d_M_init_610 (by decide) ?_
  refine va_lastG hx hb hK hP hD hS 1 0 rfl rfl (by unfold vp_in; decide) d_M_init_611 (fun f_112 H locs hP hD hS => ?_)
  have hP : va_P (dC, dI) cls [(o, .inr (4, [.null, .null, .null, .int 0, .int 0, .int 0, .int 0, .int 0, .null, .null, .int 0, .int 0, .int 0, .int 0, .int 0, .int 0, .int 0, .int 0, .null])), (q_1, .inl (g_2, 220, .inr (.inl f_112)))] H := hP
  have hD : va_D A [(o, .inr (4, [.null, .null, .null, .int 0, .int 0, .int 0, .int 0, .int 0, .null, .null, .int 0, .int 0, .int 0, .int 0, .int 0, .int 0, .int 0, .int 0, .null])), (q_1, .inl (g_2, 220, .inr (.inl f_112)))] := hD
  refine lv_dup hx hb d_M_init_612 rfl ?_
  refine lv_bipush (v := 110) hx hb d_M_init_613 (by decide) ?_
  refine lv_lconst (v := 0) hx hb d_M_init_615 (by decide) ?_
  refine va_lastG hx hb hK hP hD hS 1 0 rfl rfl (by unfold vp_in; decide) d_M_init_616 (fun f_113 H locs hP hD hS => ?_)
  have hP : va_P (dC, dI) cls [(o, .inr (4, [.null, .null, .null, .int 0, .int 0, .int 0, .int 0, .int 0, .null, .null, .int 0, .int 0, .int 0, .int 0, .int 0, .int 0, .int 0, .int 0, .null])), (q_1, .inl (g_2, 220, .inr (.inl f_113)))] H := hP
  have hD : va_D A [(o, .inr (4, [.null, .null, .null, .int 0, .int 0, .int 0, .int 0, .int 0, .null, .null, .int 0, .int 0, .int 0, .int 0, .int 0, .int 0, .int 0, .int 0, .null])), (q_1, .inl (g_2, 220, .inr (.inl f_113)))] := hD
  refine lv_dup hx hb d_M_init_617 rfl ?_
  refine lv_bipush (v := 111) hx hb d_M_init_618 (by decide) ?_
  refine lv_lconst (v := 0) hx hb d_M_init_620 (by decide) ?_
  refine va_lastG hx hb hK hP hD hS 1 0 rfl rfl (by unfold vp_in; decide) d_M_init_621 (fun f_114 H locs hP hD hS => ?_)
  have hP : va_P (dC, dI) cls [(o, .inr (4, [.null, .null, .null, .int 0, .int 0, .int 0, .int 0, .int 0, .null, .null, .int 0, .int 0, .int 0, .int 0, .int 0, .int 0, .int 0, .int 0, .null])), (q_1, .inl (g_2, 220, .inr (.inl f_114)))] H := hP
  have hD : va_D A [(o, .inr (4, [.null, .null, .null, .int 0, .int 0, .int 0, .int 0, .int 0, .null, .null, .int 0, .int 0, .int 0, .int 0, .int 0, .int 0, .int 0, .int 0, .null])), (q_1, .inl (g_2, 220, .inr (.inl f_114)))] := hD
  refine lv_dup hx hb d_M_init_622 rfl ?_
  refine lv_bipush (v := 112) hx hb d_M_init_623 (by decide) ?_
  refine lv_ldc2 (v := 8319664095743931392) hx hb hown (ht _ k_592) d_M_init_625 ?_
  refine va_lastG hx hb hK hP hD hS 1 0 rfl rfl (by unfold vp_in; decide) d_M_init_628 (fun f_115 H locs hP hD hS => ?_)
  have hP : va_P (dC, dI) cls [(o, .inr (4, [.null, .null, .null, .int 0, .int 0, .int 0, .int 0, .int 0, .null, .null, .int 0, .int 0, .int 0, .int 0, .int 0, .int 0, .int 0, .int 0, .null])), (q_1, .inl (g_2, 220, .inr (.inl f_115)))] H := hP
  have hD : va_D A [(o, .inr (4, [.null, .null, .null, .int 0, .int 0, .int 0, .int 0, .int 0, .null, .null, .int 0, .int 0, .int 0, .int 0, .int 0, .int 0, .int 0, .int 0, .null])), (q_1, .inl (g_2, 220, .inr (.inl f_115)))] := hD
  refine lv_dup hx hb d_M_init_629 rfl ?_
  refine lv_bipush (v := 113) hx hb d_M_init_630 (by decide) ?_
  refine lv_lconst (v := 0) hx hb d_M_init_632 (by decide) ?_
  refine va_lastG hx hb hK hP hD hS 1 0 rfl rfl (by unfold vp_in; decide) d_M_init_633 (fun f_116 H locs hP hD hS => ?_)
  have hP : va_P (dC, dI) cls [(o, .inr (4, [.null, .null, .null, .int 0, .int 0, .int 0, .int 0, .int 0, .null, .null, .int 0, .int 0, .int 0, .int 0, .int 0, .int 0, .int 0, .int 0, .null])), (q_1, .inl (g_2, 220, .inr (.inl f_116)))] H := hP
  have hD : va_D A [(o, .inr (4, [.null, .null, .null, .int 0, .int 0, .int 0, .int 0, .int 0, .null, .null, .int 0, .int 0, .int 0, .int 0, .int 0, .int 0, .int 0, .int 0, .null])), (q_1, .inl (g_2, 220, .inr (.inl f_116)))] := hD
  refine lv_dup hx hb d_M_init_634 rfl ?_
  refine lv_bipush (v := 114) hx hb d_M_init_635 (by decide) ?_
  refine lv_lconst (v := 0) hx hb d_M_init_637 (by decide) ?_
  refine va_lastG hx hb hK hP hD hS 1 0 rfl rfl (by unfold vp_in; decide) d_M_init_638 (fun f_117 H locs hP hD hS => ?_)
  have hP : va_P (dC, dI) cls [(o, .inr (4, [.null, .null, .null, .int 0, .int 0, .int 0, .int 0, .int 0, .null, .null, .int 0, .int 0, .int 0, .int 0, .int 0, .int 0, .int 0, .int 0, .null])), (q_1, .inl (g_2, 220, .inr (.inl f_117)))] H := hP
  have hD : va_D A [(o, .inr (4, [.null, .null, .null, .int 0, .int 0, .int 0, .int 0, .int 0, .null, .null, .int 0, .int 0, .int 0, .int 0, .int 0, .int 0, .int 0, .int 0, .null])), (q_1, .inl (g_2, 220, .inr (.inl f_117)))] := hD
  refine lv_dup hx hb d_M_init_639 rfl ?_
  refine lv_bipush (v := 115) hx hb d_M_init_640 (by decide) ?_
  refine lv_lconst (v := 0) hx hb d_M_init_642 (by decide) ?_
  refine va_lastG hx hb hK hP hD hS 1 0 rfl rfl (by unfold vp_in; decide) d_M_init_643 (fun f_118 H locs hP hD hS => ?_)
  have hP : va_P (dC, dI) cls [(o, .inr (4, [.null, .null, .null, .int 0, .int 0, .int 0, .int 0, .int 0, .null, .null, .int 0, .int 0, .int 0, .int 0, .int 0, .int 0, .int 0, .int 0, .null])), (q_1, .inl (g_2, 220, .inr (.inl f_118)))] H := hP
  have hD : va_D A [(o, .inr (4, [.null, .null, .null, .int 0, .int 0, .int 0, .int 0, .int 0, .null, .null, .int 0, .int 0, .int 0, .int 0, .int 0, .int 0, .int 0, .int 0, .null])), (q_1, .inl (g_2, 220, .inr (.inl f_118)))] := hD
  refine lv_dup hx hb d_M_init_644 rfl ?_
  refine lv_bipush (v := 116) hx hb d_M_init_645 (by decide) ?_
  refine lv_ldc2 (v := 7017844561841189733) hx hb hown (ht _ k_593) d_M_init_647 ?_
  refine va_lastG hx hb hK hP hD hS 1 0 rfl rfl (by unfold vp_in; decide) d_M_init_650 (fun f_119 H locs hP hD hS => ?_)
  have hP : va_P (dC, dI) cls [(o, .inr (4, [.null, .null, .null, .int 0, .int 0, .int 0, .int 0, .int 0, .null, .null, .int 0, .int 0, .int 0, .int 0, .int 0, .int 0, .int 0, .int 0, .null])), (q_1, .inl (g_2, 220, .inr (.inl f_119)))] H := hP
  have hD : va_D A [(o, .inr (4, [.null, .null, .null, .int 0, .int 0, .int 0, .int 0, .int 0, .null, .null, .int 0, .int 0, .int 0, .int 0, .int 0, .int 0, .int 0, .int 0, .null])), (q_1, .inl (g_2, 220, .inr (.inl f_119)))] := hD
  refine lv_dup hx hb d_M_init_651 rfl ?_
  refine lv_bipush (v := 117) hx hb d_M_init_652 (by decide) ?_
  refine lv_ldc2 (v := 8286623314361712640) hx hb hown (ht _ k_594) d_M_init_654 ?_
  refine va_lastG hx hb hK hP hD hS 1 0 rfl rfl (by unfold vp_in; decide) d_M_init_657 (fun f_120 H locs hP hD hS => ?_)
  have hP : va_P (dC, dI) cls [(o, .inr (4, [.null, .null, .null, .int 0, .int 0, .int 0, .int 0, .int 0, .null, .null, .int 0, .int 0, .int 0, .int 0, .int 0, .int 0, .int 0, .int 0, .null])), (q_1, .inl (g_2, 220, .inr (.inl f_120)))] H := hP
  have hD : va_D A [(o, .inr (4, [.null, .null, .null, .int 0, .int 0, .int 0, .int 0, .int 0, .null, .null, .int 0, .int 0, .int 0, .int 0, .int 0, .int 0, .int 0, .int 0, .null])), (q_1, .inl (g_2, 220, .inr (.inl f_120)))] := hD
  refine lv_dup hx hb d_M_init_658 rfl ?_
  refine lv_bipush (v := 118) hx hb d_M_init_659 (by decide) ?_
  refine lv_lconst (v := 0) hx hb d_M_init_661 (by decide) ?_
  refine va_lastG hx hb hK hP hD hS 1 0 rfl rfl (by unfold vp_in; decide) d_M_init_662 (fun f_121 H locs hP hD hS => ?_)
  have hP : va_P (dC, dI) cls [(o, .inr (4, [.null, .null, .null, .int 0, .int 0, .int 0, .int 0, .int 0, .null, .null, .int 0, .int 0, .int 0, .int 0, .int 0, .int 0, .int 0, .int 0, .null])), (q_1, .inl (g_2, 220, .inr (.inl f_121)))] H := hP
  have hD : va_D A [(o, .inr (4, [.null, .null, .null, .int 0, .int 0, .int 0, .int 0, .int 0, .null, .null, .int 0, .int 0, .int 0, .int 0, .int 0, .int 0, .int 0, .int 0, .null])), (q_1, .inl (g_2, 220, .inr (.inl f_121)))] := hD
  refine lv_dup hx hb d_M_init_663 rfl ?_
  refine lv_bipush (v := 119) hx hb d_M_init_664 (by decide) ?_
  refine lv_lconst (v := 0) hx hb d_M_init_666 (by decide) ?_
  refine va_lastG hx hb hK hP hD hS 1 0 rfl rfl (by unfold vp_in; decide) d_M_init_667 (fun f_122 H locs hP hD hS => ?_)
  have hP : va_P (dC, dI) cls [(o, .inr (4, [.null, .null, .null, .int 0, .int 0, .int 0, .int 0, .int 0, .null, .null, .int 0, .int 0, .int 0, .int 0, .int 0, .int 0, .int 0, .int 0, .null])), (q_1, .inl (g_2, 220, .inr (.inl f_122)))] H := hP
  have hD : va_D A [(o, .inr (4, [.null, .null, .null, .int 0, .int 0, .int 0, .int 0, .int 0, .null, .null, .int 0, .int 0, .int 0, .int 0, .int 0, .int 0, .int 0, .int 0, .null])), (q_1, .inl (g_2, 220, .inr (.inl f_122)))] := hD
  refine lv_dup hx hb d_M_init_668 rfl ?_
  refine lv_bipush (v := 120) hx hb d_M_init_669 (by decide) ?_
  refine lv_ldc2 (v := 7521414230279782400) hx hb hown (ht _ k_595) d_M_init_671 ?_
  refine va_lastG hx hb hK hP hD hS 1 0 rfl rfl (by unfold vp_in; decide) d_M_init_674 (fun f_123 H locs hP hD hS => ?_)
  have hP : va_P (dC, dI) cls [(o, .inr (4, [.null, .null, .null, .int 0, .int 0, .int 0, .int 0, .int 0, .null, .null, .int 0, .int 0, .int 0, .int 0, .int 0, .int 0, .int 0, .int 0, .null])), (q_1, .inl (g_2, 220, .inr (.inl f_123)))] H := hP
  have hD : va_D A [(o, .inr (4, [.null, .null, .null, .int 0, .int 0, .int 0, .int 0, .int 0, .null, .null, .int 0, .int 0, .int 0, .int 0, .int 0, .int 0, .int 0, .int 0, .null])), (q_1, .inl (g_2, 220, .inr (.inl f_123)))] := hD
  refine lv_dup hx hb d_M_init_675 rfl ?_
  refine lv_bipush (v := 121) hx hb d_M_init_676 (by decide) ?_
  refine lv_lconst (v := 0) hx hb d_M_init_678 (by decide) ?_
  refine va_lastG hx hb hK hP hD hS 1 0 rfl rfl (by unfold vp_in; decide) d_M_init_679 (fun f_124 H locs hP hD hS => ?_)
  have hP : va_P (dC, dI) cls [(o, .inr (4, [.null, .null, .null, .int 0, .int 0, .int 0, .int 0, .int 0, .null, .null, .int 0, .int 0, .int 0, .int 0, .int 0, .int 0, .int 0, .int 0, .null])), (q_1, .inl (g_2, 220, .inr (.inl f_124)))] H := hP
  have hD : va_D A [(o, .inr (4, [.null, .null, .null, .int 0, .int 0, .int 0, .int 0, .int 0, .null, .null, .int 0, .int 0, .int 0, .int 0, .int 0, .int 0, .int 0, .int 0, .null])), (q_1, .inl (g_2, 220, .inr (.inl f_124)))] := hD
  refine lv_dup hx hb d_M_init_680 rfl ?_
  refine lv_bipush (v := 122) hx hb d_M_init_681 (by decide) ?_
  refine lv_lconst (v := 0) hx hb d_M_init_683 (by decide) ?_
  refine va_lastG hx hb hK hP hD hS 1 0 rfl rfl (by unfold vp_in; decide) d_M_init_684 (fun f_125 H locs hP hD hS => ?_)
  have hP : va_P (dC, dI) cls [(o, .inr (4, [.null, .null, .null, .int 0, .int 0, .int 0, .int 0, .int 0, .null, .null, .int 0, .int 0, .int 0, .int 0, .int 0, .int 0, .int 0, .int 0, .null])), (q_1, .inl (g_2, 220, .inr (.inl f_125)))] H := hP
  have hD : va_D A [(o, .inr (4, [.null, .null, .null, .int 0, .int 0, .int 0, .int 0, .int 0, .null, .null, .int 0, .int 0, .int 0, .int 0, .int 0, .int 0, .int 0, .int 0, .null])), (q_1, .inl (g_2, 220, .inr (.inl f_125)))] := hD
  refine lv_dup hx hb d_M_init_685 rfl ?_
  refine lv_bipush (v := 123) hx hb d_M_init_686 (by decide) ?_
  refine lv_lconst (v := 0) hx hb d_M_init_688 (by decide) ?_
  refine va_lastG hx hb hK hP hD hS 1 0 rfl rfl (by unfold vp_in; decide) d_M_init_689 (fun f_126 H locs hP hD hS => ?_)
  have hP : va_P (dC, dI) cls [(o, .inr (4, [.null, .null, .null, .int 0, .int 0, .int 0, .int 0, .int 0, .null, .null, .int 0, .int 0, .int 0, .int 0, .int 0, .int 0, .int 0, .int 0, .null])), (q_1, .inl (g_2, 220, .inr (.inl f_126)))] H := hP
  have hD : va_D A [(o, .inr (4, [.null, .null, .null, .int 0, .int 0, .int 0, .int 0, .int 0, .null, .null, .int 0, .int 0, .int 0, .int 0, .int 0, .int 0, .int 0, .int 0, .null])), (q_1, .inl (g_2, 220, .inr (.inl f_126)))] := hD
  refine lv_dup hx hb d_M_init_690 rfl ?_
  refine lv_bipush (v := 124) hx hb d_M_init_691 (by decide) ?_
  refine lv_ldc2 (v := 8031718525762535424) hx hb hown (ht _ k_596) d_M_init_693 ?_
  refine va_lastG hx hb hK hP hD hS 1 0 rfl rfl (by unfold vp_in; decide) d_M_init_696 (fun f_127 H locs hP hD hS => ?_)
  have hP : va_P (dC, dI) cls [(o, .inr (4, [.null, .null, .null, .int 0, .int 0, .int 0, .int 0, .int 0, .null, .null, .int 0, .int 0, .int 0, .int 0, .int 0, .int 0, .int 0, .int 0, .null])), (q_1, .inl (g_2, 220, .inr (.inl f_127)))] H := hP
  have hD : va_D A [(o, .inr (4, [.null, .null, .null, .int 0, .int 0, .int 0, .int 0, .int 0, .null, .null, .int 0, .int 0, .int 0, .int 0, .int 0, .int 0, .int 0, .int 0, .null])), (q_1, .inl (g_2, 220, .inr (.inl f_127)))] := hD
  refine lv_dup hx hb d_M_init_697 rfl ?_
  refine lv_bipush (v := 125) hx hb d_M_init_698 (by decide) ?_
  refine lv_lconst (v := 0) hx hb d_M_init_700 (by decide) ?_
  refine va_lastG hx hb hK hP hD hS 1 0 rfl rfl (by unfold vp_in; decide) d_M_init_701 (fun f_128 H locs hP hD hS => ?_)
  have hP : va_P (dC, dI) cls [(o, .inr (4, [.null, .null, .null, .int 0, .int 0, .int 0, .int 0, .int 0, .null, .null, .int 0, .int 0, .int 0, .int 0, .int 0, .int 0, .int 0, .int 0, .null])), (q_1, .inl (g_2, 220, .inr (.inl f_128)))] H := hP
  have hD : va_D A [(o, .inr (4, [.null, .null, .null, .int 0, .int 0, .int 0, .int 0, .int 0, .null, .null, .int 0, .int 0, .int 0, .int 0, .int 0, .int 0, .int 0, .int 0, .null])), (q_1, .inl (g_2, 220, .inr (.inl f_128)))] := hD
  refine lv_dup hx hb d_M_init_702 rfl ?_
  refine lv_bipush (v := 126) hx hb d_M_init_703 (by decide) ?_
  refine lv_lconst (v := 0) hx hb d_M_init_705 (by decide) ?_
  refine va_lastG hx hb hK hP hD hS 1 0 rfl rfl (by unfold vp_in; decide) d_M_init_706 (fun f_129 H locs hP hD hS => ?_)
  have hP : va_P (dC, dI) cls [(o, .inr (4, [.null, .null, .null, .int 0, .int 0, .int 0, .int 0, .int 0, .null, .null, .int 0, .int 0, .int 0, .int 0, .int 0, .int 0, .int 0, .int 0, .null])), (q_1, .inl (g_2, 220, .inr (.inl f_129)))] H := hP
  have hD : va_D A [(o, .inr (4, [.null, .null, .null, .int 0, .int 0, .int 0, .int 0, .int 0, .null, .null, .int 0, .int 0, .int 0, .int 0, .int 0, .int 0, .int 0, .int 0, .null])), (q_1, .inl (g_2, 220, .inr (.inl f_129)))] := hD
  refine lv_dup hx hb d_M_init_707 rfl ?_
  refine lv_bipush (v := 127) hx hb d_M_init_708 (by decide) ?_
  refine lv_lconst (v := 0) hx hb d_M_init_710 (by decide) ?_
  refine va_lastG hx hb hK hP hD hS 1 0 rfl rfl (by unfold vp_in; decide) d_M_init_711 (fun f_130 H locs hP hD hS => ?_)
  have hP : va_P (dC, dI) cls [(o, .inr (4, [.null, .null, .null, .int 0, .int 0, .int 0, .int 0, .int 0, .null, .null, .int 0, .int 0, .int 0, .int 0, .int 0, .int 0, .int 0, .int 0, .null])), (q_1, .inl (g_2, 220, .inr (.inl f_130)))] H := hP
  have hD : va_D A [(o, .inr (4, [.null, .null, .null, .int 0, .int 0, .int 0, .int 0, .int 0, .null, .null, .int 0, .int 0, .int 0, .int 0, .int 0, .int 0, .int 0, .int 0, .null])), (q_1, .inl (g_2, 220, .inr (.inl f_130)))] := hD
  refine lv_dup hx hb d_M_init_712 rfl ?_
  refine lv_sipush (v := 128) hx hb d_M_init_713 (by decide) ?_
  refine lv_ldc2 (v := 8461811136742817792) hx hb hown (ht _ k_597) d_M_init_716 ?_
  refine va_lastG hx hb hK hP hD hS 1 0 rfl rfl (by unfold vp_in; decide) d_M_init_719 (fun f_131 H locs hP hD hS => ?_)
  have hP : va_P (dC, dI) cls [(o, .inr (4, [.null, .null, .null, .int 0, .int 0, .int 0, .int 0, .int 0, .null, .null, .int 0, .int 0, .int 0, .int 0, .int 0, .int 0, .int 0, .int 0, .null])), (q_1, .inl (g_2, 220, .inr (.inl f_131)))] H := hP
  have hD : va_D A [(o, .inr (4, [.null, .null, .null, .int 0, .int 0, .int 0, .int 0, .int 0, .null, .null, .int 0, .int 0, .int 0, .int 0, .int 0, .int 0, .int 0, .int 0, .null])), (q_1, .inl (g_2, 220, .inr (.inl f_131)))] := hD
  refine lv_dup hx hb d_M_init_720 rfl ?_
  refine lv_sipush (v := 129) hx hb d_M_init_721 (by decide) ?_
  refine lv_lconst (v := 0) hx hb d_M_init_724 (by decide) ?_
  refine va_lastG hx hb hK hP hD hS 1 0 rfl rfl (by unfold vp_in; decide) d_M_init_725 (fun f_132 H locs hP hD hS => ?_)
  have hP : va_P (dC, dI) cls [(o, .inr (4, [.null, .null, .null, .int 0, .int 0, .int 0, .int 0, .int 0, .null, .null, .int 0, .int 0, .int 0, .int 0, .int 0, .int 0, .int 0, .int 0, .null])), (q_1, .inl (g_2, 220, .inr (.inl f_132)))] H := hP
  have hD : va_D A [(o, .inr (4, [.null, .null, .null, .int 0, .int 0, .int 0, .int 0, .int 0, .null, .null, .int 0, .int 0, .int 0, .int 0, .int 0, .int 0, .int 0, .int 0, .null])), (q_1, .inl (g_2, 220, .inr (.inl f_132)))] := hD
  refine lv_dup hx hb d_M_init_726 rfl ?_
  refine lv_sipush (v := 130) hx hb d_M_init_727 (by decide) ?_
  refine lv_lconst (v := 0) hx hb d_M_init_730 (by decide) ?_
  refine va_lastG hx hb hK hP hD hS 1 0 rfl rfl (by unfold vp_in; decide) d_M_init_731 (fun f_133 H locs hP hD hS => ?_)
  have hP : va_P (dC, dI) cls [(o, .inr (4, [.null, .null, .null, .int 0, .int 0, .int 0, .int 0, .int 0, .null, .null, .int 0, .int 0, .int 0, .int 0, .int 0, .int 0, .int 0, .int 0, .null])), (q_1, .inl (g_2, 220, .inr (.inl f_133)))] H := hP
  have hD : va_D A [(o, .inr (4, [.null, .null, .null, .int 0, .int 0, .int 0, .int 0, .int 0, .null, .null, .int 0, .int 0, .int 0, .int 0, .int 0, .int 0, .int 0, .int 0, .null])), (q_1, .inl (g_2, 220, .inr (.inl f_133)))] := hD
  refine lv_dup hx hb d_M_init_732 rfl ?_
  refine lv_sipush (v := 131) hx hb d_M_init_733 (by decide) ?_
  refine lv_lconst (v := 0) hx hb d_M_init_736 (by decide) ?_
  refine va_lastG hx hb hK hP hD hS 1 0 rfl rfl (by unfold vp_in; decide) d_M_init_737 (fun f_134 H locs hP hD hS => ?_)
  have hP : va_P (dC, dI) cls [(o, .inr (4, [.null, .null, .null, .int 0, .int 0, .int 0, .int 0, .int 0, .null, .null, .int 0, .int 0, .int 0, .int 0, .int 0, .int 0, .int 0, .int 0, .null])), (q_1, .inl (g_2, 220, .inr (.inl f_134)))] H := hP
  have hD : va_D A [(o, .inr (4, [.null, .null, .null, .int 0, .int 0, .int 0, .int 0, .int 0, .null, .null, .int 0, .int 0, .int 0, .int 0, .int 0, .int 0, .int 0, .int 0, .null])), (q_1, .inl (g_2, 220, .inr (.inl f_134)))] := hD
  refine lv_dup hx hb d_M_init_738 rfl ?_
  refine lv_sipush (v := 132) hx hb d_M_init_739 (by decide) ?_
  refine lv_ldc2 (v := 7598416996304158720) hx hb hown (ht _ k_598) d_M_init_742 ?_
  refine va_lastG hx hb hK hP hD hS 1 0 rfl rfl (by unfold vp_in; decide) d_M_init_745 (fun f_135 H locs hP hD hS => ?_)
  have hP : va_P (dC, dI) cls [(o, .inr (4, [.null, .null, .null, .int 0, .int 0, .int 0, .int 0, .int 0, .null, .null, .int 0, .int 0, .int 0, .int 0, .int 0, .int 0, .int 0, .int 0, .null])), (q_1, .inl (g_2, 220, .inr (.inl f_135)))] H := hP
  have hD : va_D A [(o, .inr (4, [.null, .null, .null, .int 0, .int 0, .int 0, .int 0, .int 0, .null, .null, .int 0, .int 0, .int 0, .int 0, .int 0, .int 0, .int 0, .int 0, .null])), (q_1, .inl (g_2, 220, .inr (.inl f_135)))] := hD
  refine lv_dup hx hb d_M_init_746 rfl ?_
  refine lv_sipush (v := 133) hx hb d_M_init_747 (by decide) ?_
  refine lv_lconst (v := 0) hx hb d_M_init_750 (by decide) ?_
  refine va_lastG hx hb hK hP hD hS 1 0 rfl rfl (by unfold vp_in; decide) d_M_init_751 (fun f_136 H locs hP hD hS => ?_)
  have hP : va_P (dC, dI) cls [(o, .inr (4, [.null, .null, .null, .int 0, .int 0, .int 0, .int 0, .int 0, .null, .null, .int 0, .int 0, .int 0, .int 0, .int 0, .int 0, .int 0, .int 0, .null])), (q_1, .inl (g_2, 220, .inr (.inl f_136)))] H := hP
  have hD : va_D A [(o, .inr (4, [.null, .null, .null, .int 0, .int 0, .int 0, .int 0, .int 0, .null, .null, .int 0, .int 0, .int 0, .int 0, .int 0, .int 0, .int 0, .int 0, .null])), (q_1, .inl (g_2, 220, .inr (.inl f_136)))] := hD
  refine lv_dup hx hb d_M_init_752 rfl ?_
  refine lv_sipush (v := 134) hx hb d_M_init_753 (by decide) ?_
  refine lv_lconst (v := 0) hx hb d_M_init_756 (by decide) ?_
  refine va_lastG hx hb hK hP hD hS 1 0 rfl rfl (by unfold vp_in; decide) d_M_init_757 (fun f_137 H locs hP hD hS => ?_)
  have hP : va_P (dC, dI) cls [(o, .inr (4, [.null, .null, .null, .int 0, .int 0, .int 0, .int 0, .int 0, .null, .null, .int 0, .int 0, .int 0, .int 0, .int 0, .int 0, .int 0, .int 0, .null])), (q_1, .inl (g_2, 220, .inr (.inl f_137)))] H := hP
  have hD : va_D A [(o, .inr (4, [.null, .null, .null, .int 0, .int 0, .int 0, .int 0, .int 0, .null, .null, .int 0, .int 0, .int 0, .int 0, .int 0, .int 0, .int 0, .int 0, .null])), (q_1, .inl (g_2, 220, .inr (.inl f_137)))] := hD
  refine lv_dup hx hb d_M_init_758 rfl ?_
  refine lv_sipush (v := 135) hx hb d_M_init_759 (by decide) ?_
  refine lv_lconst (v := 0) hx hb d_M_init_762 (by decide) ?_
  refine va_lastG hx hb hK hP hD hS 1 0 rfl rfl (by unfold vp_in; decide) d_M_init_763 (fun f_138 H locs hP hD hS => ?_)
  have hP : va_P (dC, dI) cls [(o, .inr (4, [.null, .null, .null, .int 0, .int 0, .int 0, .int 0, .int 0, .null, .null, .int 0, .int 0, .int 0, .int 0, .int 0, .int 0, .int 0, .int 0, .null])), (q_1, .inl (g_2, 220, .inr (.inl f_138)))] H := hP
  have hD : va_D A [(o, .inr (4, [.null, .null, .null, .int 0, .int 0, .int 0, .int 0, .int 0, .null, .null, .int 0, .int 0, .int 0, .int 0, .int 0, .int 0, .int 0, .int 0, .null])), (q_1, .inl (g_2, 220, .inr (.inl f_138)))] := hD
  refine lv_dup hx hb d_M_init_764 rfl ?_
  refine lv_sipush (v := 136) hx hb d_M_init_765 (by decide) ?_
  refine lv_ldc2 (v := 7165066978299309683) hx hb hown (ht _ k_599) d_M_init_768 ?_
  refine va_lastG hx hb hK hP hD hS 1 0 rfl rfl (by unfold vp_in; decide) d_M_init_771 (fun f_139 H locs hP hD hS => ?_)
  have hP : va_P (dC, dI) cls [(o, .inr (4, [.null, .null, .null, .int 0, .int 0, .int 0, .int 0, .int 0, .null, .null, .int 0, .int 0, .int 0, .int 0, .int 0, .int 0, .int 0, .int 0, .null])), (q_1, .inl (g_2, 220, .inr (.inl f_139)))] H := hP
  have hD : va_D A [(o, .inr (4, [.null, .null, .null, .int 0, .int 0, .int 0, .int 0, .int 0, .null, .null, .int 0, .int 0, .int 0, .int 0, .int 0, .int 0, .int 0, .int 0, .null])), (q_1, .inl (g_2, 220, .inr (.inl f_139)))] := hD
  refine lv_dup hx hb d_M_init_772 rfl ?_
  refine lv_sipush (v := 137) hx hb d_M_init_773 (by decide) ?_
  refine lv_lconst (v := 0) hx hb d_M_init_776 (by decide) ?_
  refine va_lastG hx hb hK hP hD hS 1 0 rfl rfl (by unfold vp_in; decide) d_M_init_777 (fun f_140 H locs hP hD hS => ?_)
  have hP : va_P (dC, dI) cls [(o, .inr (4, [.null, .null, .null, .int 0, .int 0, .int 0, .int 0, .int 0, .null, .null, .int 0, .int 0, .int 0, .int 0, .int 0, .int 0, .int 0, .int 0, .null])), (q_1, .inl (g_2, 220, .inr (.inl f_140)))] H := hP
  have hD : va_D A [(o, .inr (4, [.null, .null, .null, .int 0, .int 0, .int 0, .int 0, .int 0, .null, .null, .int 0, .int 0, .int 0, .int 0, .int 0, .int 0, .int 0, .int 0, .null])), (q_1, .inl (g_2, 220, .inr (.inl f_140)))] := hD
  refine lv_dup hx hb d_M_init_778 rfl ?_
  refine lv_sipush (v := 138) hx hb d_M_init_779 (by decide) ?_
  refine lv_lconst (v := 0) hx hb d_M_init_782 (by decide) ?_
  refine va_lastG hx hb hK hP hD hS 1 0 rfl rfl (by unfold vp_in; decide) d_M_init_783 (fun f_141 H locs hP hD hS => ?_)
  have hP : va_P (dC, dI) cls [(o, .inr (4, [.null, .null, .null, .int 0, .int 0, .int 0, .int 0, .int 0, .null, .null, .int 0, .int 0, .int 0, .int 0, .int 0, .int 0, .int 0, .int 0, .null])), (q_1, .inl (g_2, 220, .inr (.inl f_141)))] H := hP
  have hD : va_D A [(o, .inr (4, [.null, .null, .null, .int 0, .int 0, .int 0, .int 0, .int 0, .null, .null, .int 0, .int 0, .int 0, .int 0, .int 0, .int 0, .int 0, .int 0, .null])), (q_1, .inl (g_2, 220, .inr (.inl f_141)))] := hD
  refine lv_dup hx hb d_M_init_784 rfl ?_
  refine lv_sipush (v := 139) hx hb d_M_init_785 (by decide) ?_
  refine lv_lconst (v := 0) hx hb d_M_init_788 (by decide) ?_
  refine va_lastG hx hb hK hP hD hS 1 0 rfl rfl (by unfold vp_in; decide) d_M_init_789 (fun f_142 H locs hP hD hS => ?_)
  have hP : va_P (dC, dI) cls [(o, .inr (4, [.null, .null, .null, .int 0, .int 0, .int 0, .int 0, .int 0, .null, .null, .int 0, .int 0, .int 0, .int 0, .int 0, .int 0, .int 0, .int 0, .null])), (q_1, .inl (g_2, 220, .inr (.inl f_142)))] H := hP
  have hD : va_D A [(o, .inr (4, [.null, .null, .null, .int 0, .int 0, .int 0, .int 0, .int 0, .null, .null, .int 0, .int 0, .int 0, .int 0, .int 0, .int 0, .int 0, .int 0, .null])), (q_1, .inl (g_2, 220, .inr (.inl f_142)))] := hD
  refine lv_dup hx hb d_M_init_790 rfl ?_
  refine lv_sipush (v := 140) hx hb d_M_init_791 (by decide) ?_
  refine lv_ldc2 (v := 7881708793177142016) hx hb hown (ht _ k_600) d_M_init_794 ?_
  refine va_lastG hx hb hK hP hD hS 1 0 rfl rfl (by unfold vp_in; decide) d_M_init_797 (fun f_143 H locs hP hD hS => ?_)
  have hP : va_P (dC, dI) cls [(o, .inr (4, [.null, .null, .null, .int 0, .int 0, .int 0, .int 0, .int 0, .null, .null, .int 0, .int 0, .int 0, .int 0, .int 0, .int 0, .int 0, .int 0, .null])), (q_1, .inl (g_2, 220, .inr (.inl f_143)))] H := hP
  have hD : va_D A [(o, .inr (4, [.null, .null, .null, .int 0, .int 0, .int 0, .int 0, .int 0, .null, .null, .int 0, .int 0, .int 0, .int 0, .int 0, .int 0, .int 0, .int 0, .null])), (q_1, .inl (g_2, 220, .inr (.inl f_143)))] := hD
  refine lv_dup hx hb d_M_init_798 rfl ?_
  refine lv_sipush (v := 141) hx hb d_M_init_799 (by decide) ?_
  refine lv_lconst (v := 0) hx hb d_M_init_802 (by decide) ?_
  refine va_lastG hx hb hK hP hD hS 1 0 rfl rfl (by unfold vp_in; decide) d_M_init_803 (fun f_144 H locs hP hD hS => ?_)
  have hP : va_P (dC, dI) cls [(o, .inr (4, [.null, .null, .null, .int 0, .int 0, .int 0, .int 0, .int 0, .null, .null, .int 0, .int 0, .int 0, .int 0, .int 0, .int 0, .int 0, .int 0, .null])), (q_1, .inl (g_2, 220, .inr (.inl f_144)))] H := hP
  have hD : va_D A [(o, .inr (4, [.null, .null, .null, .int 0, .int 0, .int 0, .int 0, .int 0, .null, .null, .int 0, .int 0, .int 0, .int 0, .int 0, .int 0, .int 0, .int 0, .null])), (q_1, .inl (g_2, 220, .inr (.inl f_144)))] := hD
  refine lv_dup hx hb d_M_init_804 rfl ?_
  refine lv_sipush (v := 142) hx hb d_M_init_805 (by decide) ?_
  refine lv_lconst (v := 0) hx hb d_M_init_808 (by decide) ?_
  refine va_lastG hx hb hK hP hD hS 1 0 rfl rfl (by unfold vp_in; decide) d_M_init_809 (fun f_145 H locs hP hD hS => ?_)
  have hP : va_P (dC, dI) cls [(o, .inr (4, [.null, .null, .null, .int 0, .int 0, .int 0, .int 0, .int 0, .null, .null, .int 0, .int 0, .int 0, .int 0, .int 0, .int 0, .int 0, .int 0, .null])), (q_1, .inl (g_2, 220, .inr (.inl f_145)))] H := hP
  have hD : va_D A [(o, .inr (4, [.null, .null, .null, .int 0, .int 0, .int 0, .int 0, .int 0, .null, .null, .int 0, .int 0, .int 0, .int 0, .int 0, .int 0, .int 0, .int 0, .null])), (q_1, .inl (g_2, 220, .inr (.inl f_145)))] := hD
  refine lv_dup hx hb d_M_init_810 rfl ?_
  refine lv_sipush (v := 143) hx hb d_M_init_811 (by decide) ?_
  refine lv_lconst (v := 0) hx hb d_M_init_814 (by decide) ?_
  refine va_lastG hx hb hK hP hD hS 1 0 rfl rfl (by unfold vp_in; decide) d_M_init_815 (fun f_146 H locs hP hD hS => ?_)
  have hP : va_P (dC, dI) cls [(o, .inr (4, [.null, .null, .null, .int 0, .int 0, .int 0, .int 0, .int 0, .null, .null, .int 0, .int 0, .int 0, .int 0, .int 0, .int 0, .int 0, .int 0, .null])), (q_1, .inl (g_2, 220, .inr (.inl f_146)))] H := hP
  have hD : va_D A [(o, .inr (4, [.null, .null, .null, .int 0, .int 0, .int 0, .int 0, .int 0, .null, .null, .int 0, .int 0, .int 0, .int 0, .int 0, .int 0, .int 0, .int 0, .null])), (q_1, .inl (g_2, 220, .inr (.inl f_146)))] := hD
  refine lv_dup hx hb d_M_init_816 rfl ?_
  refine lv_sipush (v := 144) hx hb d_M_init_817 (by decide) ?_
  refine lv_ldc2 (v := 7165074649422757888) hx hb hown (ht _ k_601) d_M_init_820 ?_
  refine va_lastG hx hb hK hP hD hS 1 0 rfl rfl (by unfold vp_in; decide) d_M_init_823 (fun f_147 H locs hP hD hS => ?_)
  have hP : va_P (dC, dI) cls [(o, .inr (4, [.null, .null, .null, .int 0, .int 0, .int 0, .int 0, .int 0, .null, .null, .int 0, .int 0, .int 0, .int 0, .int 0, .int 0, .int 0, .int 0, .null])), (q_1, .inl (g_2, 220, .inr (.inl f_147)))] H := hP
  have hD : va_D A [(o, .inr (4, [.null, .null, .null, .int 0, .int 0, .int 0, .int 0, .int 0, .null, .null, .int 0, .int 0, .int 0, .int 0, .int 0, .int 0, .int 0, .int 0, .null])), (q_1, .inl (g_2, 220, .inr (.inl f_147)))] := hD
  refine lv_dup hx hb d_M_init_824 rfl ?_
  refine lv_sipush (v := 145) hx hb d_M_init_825 (by decide) ?_
  refine lv_lconst (v := 0) hx hb d_M_init_828 (by decide) ?_
  refine va_lastG hx hb hK hP hD hS 1 0 rfl rfl (by unfold vp_in; decide) d_M_init_829 (fun f_148 H locs hP hD hS => ?_)
  have hP : va_P (dC, dI) cls [(o, .inr (4, [.null, .null, .null, .int 0, .int 0, .int 0, .int 0, .int 0, .null, .null, .int 0, .int 0, .int 0, .int 0, .int 0, .int 0, .int 0, .int 0, .null])), (q_1, .inl (g_2, 220, .inr (.inl f_148)))] H := hP
  have hD : va_D A [(o, .inr (4, [.null, .null, .null, .int 0, .int 0, .int 0, .int 0, .int 0, .null, .null, .int 0, .int 0, .int 0, .int 0, .int 0, .int 0, .int 0, .int 0, .null])), (q_1, .inl (g_2, 220, .inr (.inl f_148)))] := hD
  refine lv_dup hx hb d_M_init_830 rfl ?_
  refine lv_sipush (v := 146) hx hb d_M_init_831 (by decide) ?_
  refine lv_lconst (v := 0) hx hb d_M_init_834 (by decide) ?_
  refine va_lastG hx hb hK hP hD hS 1 0 rfl rfl (by unfold vp_in; decide) d_M_init_835 (fun f_149 H locs hP hD hS => ?_)
  have hP : va_P (dC, dI) cls [(o, .inr (4, [.null, .null, .null, .int 0, .int 0, .int 0, .int 0, .int 0, .null, .null, .int 0, .int 0, .int 0, .int 0, .int 0, .int 0, .int 0, .int 0, .null])), (q_1, .inl (g_2, 220, .inr (.inl f_149)))] H := hP
  have hD : va_D A [(o, .inr (4, [.null, .null, .null, .int 0, .int 0, .int 0, .int 0, .int 0, .null, .null, .int 0, .int 0, .int 0, .int 0, .int 0, .int 0, .int 0, .int 0, .null])), (q_1, .inl (g_2, 220, .inr (.inl f_149)))] := hD
  refine lv_dup hx hb d_M_init_836 rfl ?_
  refine lv_sipush (v := 147) hx hb d_M_init_837 (by decide) ?_
  refine lv_lconst (v := 0) hx hb d_M_init_840 (by decide) ?_
  refine va_lastG hx hb hK hP hD hS 1 0 rfl rfl (by unfold vp_in; decide) d_M_init_841 (fun f_150 H locs hP hD hS => ?_)
  have hP : va_P (dC, dI) cls [(o, .inr (4, [.null, .null, .null, .int 0, .int 0, .int 0, .int 0, .int 0, .null, .null, .int 0, .int 0, .int 0, .int 0, .int 0, .int 0, .int 0, .int 0, .null])), (q_1, .inl (g_2, 220, .inr (.inl f_150)))] H := hP
  have hD : va_D A [(o, .inr (4, [.null, .null, .null, .int 0, .int 0, .int 0, .int 0, .int 0, .null, .null, .int 0, .int 0, .int 0, .int 0, .int 0, .int 0, .int 0, .int 0, .null])), (q_1, .inl (g_2, 220, .inr (.inl f_150)))] := hD
  refine lv_dup hx hb d_M_init_842 rfl ?_
  refine lv_sipush (v := 148) hx hb d_M_init_843 (by decide) ?_
  refine lv_ldc2 (v := 8530218420677902336) hx hb hown (ht _ k_602) d_M_init_846 ?_
  refine va_lastG hx hb hK hP hD hS 1 0 rfl rfl (by unfold vp_in; decide) d_M_init_849 (fun f_151 H locs hP hD hS => ?_)
  have hP : va_P (dC, dI) cls [(o, .inr (4, [.null, .null, .null, .int 0, .int 0, .int 0, .int 0, .int 0, .null, .null, .int 0, .int 0, .int 0, .int 0, .int 0, .int 0, .int 0, .int 0, .null])), (q_1, .inl (g_2, 220, .inr (.inl f_151)))] H := hP
  have hD : va_D A [(o, .inr (4, [.null, .null, .null, .int 0, .int 0, .int 0, .int 0, .int 0, .null, .null, .int 0, .int 0, .int 0, .int 0, .int 0, .int 0, .int 0, .int 0, .null])), (q_1, .inl (g_2, 220, .inr (.inl f_151)))] := hD
  refine lv_dup hx hb d_M_init_850 rfl ?_
  refine lv_sipush (v := 149) hx hb d_M_init_851 (by decide) ?_
  refine lv_lconst (v := 0) hx hb d_M_init_854 (by decide) ?_
  refine va_lastG hx hb hK hP hD hS 1 0 rfl rfl (by unfold vp_in; decide) d_M_init_855 (fun f_152 H locs hP hD hS => ?_)
  have hP : va_P (dC, dI) cls [(o, .inr (4, [.null, .null, .null, .int 0, .int 0, .int 0, .int 0, .int 0, .null, .null, .int 0, .int 0, .int 0, .int 0, .int 0, .int 0, .int 0, .int 0, .null])), (q_1, .inl (g_2, 220, .inr (.inl f_152)))] H := hP
  have hD : va_D A [(o, .inr (4, [.null, .null, .null, .int 0, .int 0, .int 0, .int 0, .int 0, .null, .null, .int 0, .int 0, .int 0, .int 0, .int 0, .int 0, .int 0, .int 0, .null])), (q_1, .inl (g_2, 220, .inr (.inl f_152)))] := hD
  refine lv_dup hx hb d_M_init_856 rfl ?_
  refine lv_sipush (v := 150) hx hb d_M_init_857 (by decide) ?_
  refine lv_lconst (v := 0) hx hb d_M_init_860 (by decide) ?_
  refine va_lastG hx hb hK hP hD hS 1 0 rfl rfl (by unfold vp_in; decide) d_M_init_861 (fun f_153 H locs hP hD hS => ?_)
  have hP : va_P (dC, dI) cls [(o, .inr (4, [.null, .null, .null, .int 0, .int 0, .int 0, .int 0, .int 0, .null, .null, .int 0, .int 0, .int 0, .int 0, .int 0, .int 0, .int 0, .int 0, .null])), (q_1, .inl (g_2, 220, .inr (.inl f_153)))] H := hP
  have hD : va_D A [(o, .inr (4, [.null, .null, .null, .int 0, .int 0, .int 0, .int 0, .int 0, .null, .null, .int 0, .int 0, .int 0, .int 0, .int 0, .int 0, .int 0, .int 0, .null])), (q_1, .inl (g_2, 220, .inr (.inl f_153)))] := hD
  refine lv_dup hx hb d_M_init_862 rfl ?_
  refine lv_sipush (v := 151) hx hb d_M_init_863 (by decide) ?_
  refine lv_lconst (v := 0) hx hb d_M_init_866 (by decide) ?_
  refine va_lastG hx hb hK hP hD hS 1 0 rfl rfl (by unfold vp_in; decide) d_M_init_867 (fun f_154 H locs hP hD hS => ?_)
  have hP : va_P (dC, dI) cls [(o, .inr (4, [.null, .null, .null, .int 0, .int 0, .int 0, .int 0, .int 0, .null, .null, .int 0, .int 0, .int 0, .int 0, .int 0, .int 0, .int 0, .int 0, .null])), (q_1, .inl (g_2, 220, .inr (.inl f_154)))] H := hP
  have hD : va_D A [(o, .inr (4, [.null, .null, .null, .int 0, .int 0, .int 0, .int 0, .int 0, .null, .null, .int 0, .int 0, .int 0, .int 0, .int 0, .int 0, .int 0, .int 0, .null])), (q_1, .inl (g_2, 220, .inr (.inl f_154)))] := hD
  refine lv_dup hx hb d_M_init_868 rfl ?_
  refine lv_sipush (v := 152) hx hb d_M_init_869 (by decide) ?_
  refine lv_ldc2 (v := 7165065861608399220) hx hb hown (ht _ k_603) d_M_init_872 ?_
  refine va_lastG hx hb hK hP hD hS 1 0 rfl rfl (by unfold vp_in; decide) d_M_init_875 (fun f_155 H locs hP hD hS => ?_)
  have hP : va_P (dC, dI) cls [(o, .inr (4, [.null, .null, .null, .int 0, .int 0, .int 0, .int 0, .int 0, .null, .null, .int 0, .int 0, .int 0, .int 0, .int 0, .int 0, .int 0, .int 0, .null])), (q_1, .inl (g_2, 220, .inr (.inl f_155)))] H := hP
  have hD : va_D A [(o, .inr (4, [.null, .null, .null, .int 0, .int 0, .int 0, .int 0, .int 0, .null, .null, .int 0, .int 0, .int 0, .int 0, .int 0, .int 0, .int 0, .int 0, .null])), (q_1, .inl (g_2, 220, .inr (.inl f_155)))] := hD
  refine lv_dup hx hb d_M_init_876 rfl ?_
  refine lv_sipush (v := 153) hx hb d_M_init_877 (by decide) ?_
  refine lv_ldc2 (v := 8030481085555015680) hx hb hown (ht _ k_604) d_M_init_880 ?_
  refine va_lastG hx hb hK hP hD hS 1 0 rfl rfl (by unfold vp_in; decide) d_M_init_883 (fun f_156 H locs hP hD hS => ?_)
  have hP : va_P (dC, dI) cls [(o, .inr (4, [.null, .null, .null, .int 0, .int 0, .int 0, .int 0, .int 0, .null, .null, .int 0, .int 0, .int 0, .int 0, .int 0, .int 0, .int 0, .int 0, .null])), (q_1, .inl (g_2, 220, .inr (.inl f_156)))] H := hP
  have hD : va_D A [(o, .inr (4, [.null, .null, .null, .int 0, .int 0, .int 0, .int 0, .int 0, .null, .null, .int 0, .int 0, .int 0, .int 0, .int 0, .int 0, .int 0, .int 0, .null])), (q_1, .inl (g_2, 220, .inr (.inl f_156)))] := hD
  refine lv_dup hx hb d_M_init_884 rfl ?_
  refine lv_sipush (v := 154) hx hb d_M_init_885 (by decide) ?_
  refine lv_lconst (v := 0) hx hb d_M_init_888 (by decide) ?_
  refine va_lastG hx hb hK hP hD hS 1 0 rfl rfl (by unfold vp_in; decide) d_M_init_889 (fun f_157 H locs hP hD hS => ?_)
  have hP : va_P (dC, dI) cls [(o, .inr (4, [.null, .null, .null, .int 0, .int 0, .int 0, .int 0, .int 0, .null, .null, .int 0, .int 0, .int 0, .int 0, .int 0, .int 0, .int 0, .int 0, .null])), (q_1, .inl (g_2, 220, .inr (.inl f_157)))] H := hP
  have hD : va_D A [(o, .inr (4, [.null, .null, .null, .int 0, .int 0, .int 0, .int 0, .int 0, .null, .null, .int 0, .int 0, .int 0, .int 0, .int 0, .int 0, .int 0, .int 0, .null])), (q_1, .inl (g_2, 220, .inr (.inl f_157)))] := hD
  refine lv_dup hx hb d_M_init_890 rfl ?_
  refine lv_sipush (v := 155) hx hb d_M_init_891 (by decide) ?_
  refine lv_lconst (v := 0) hx hb d_M_init_894 (by decide) ?_
  refine va_lastG hx hb hK hP hD hS 1 0 rfl rfl (by unfold vp_in; decide) d_M_init_895 (fun f_158 H locs hP hD hS => ?_)
  have hP : va_P (dC, dI) cls [(o, .inr (4, [.null, .null, .null, .int 0, .int 0, .int 0, .int 0, .int 0, .null, .null, .int 0, .int 0, .int 0, .int 0, .int 0, .int 0, .int 0, .int 0, .null])), (q_1, .inl (g_2, 220, .inr (.inl f_158)))] H := hP
  have hD : va_D A [(o, .inr (4, [.null, .null, .null, .int 0, .int 0, .int 0, .int 0, .int 0, .null, .null, .int 0, .int 0, .int 0, .int 0, .int 0, .int 0, .int 0, .int 0, .null])), (q_1, .inl (g_2, 220, .inr (.inl f_158)))] := hD
  refine lv_dup hx hb d_M_init_896 rfl ?_
  refine lv_sipush (v := 156) hx hb d_M_init_897 (by decide) ?_
  refine lv_ldc2 (v := 7020104666419560448) hx hb hown (ht _ k_605) d_M_init_900 ?_
  refine va_lastG hx hb hK hP hD hS 1 0 rfl rfl (by unfold vp_in; decide) d_M_init_903 (fun f_159 H locs hP hD hS => ?_)
  have hP : va_P (dC, dI) cls [(o, .inr (4, [.null, .null, .null, .int 0, .int 0, .int 0, .int 0, .int 0, .null, .null, .int 0, .int 0, .int 0, .int 0, .int 0, .int 0, .int 0, .int 0, .null])), (q_1, .inl (g_2, 220, .inr (.inl f_159)))] H := hP
  have hD : va_D A [(o, .inr (4, [.null, .null, .null, .int 0, .int 0, .int 0, .int 0, .int 0, .null, .null, .int 0, .int 0, .int 0, .int 0, .int 0, .int 0, .int 0, .int 0, .null])), (q_1, .inl (g_2, 220, .inr (.inl f_159)))] := hD
  refine lv_dup hx hb d_M_init_904 rfl ?_
  refine lv_sipush (v := 157) hx hb d_M_init_905 (by decide) ?_
  refine lv_lconst (v := 0) hx hb d_M_init_908 (by decide) ?_
  refine va_lastG hx hb hK hP hD hS 1 0 rfl rfl (by unfold vp_in; decide) d_M_init_909 (fun f_160 H locs hP hD hS => ?_)
  have hP : va_P (dC, dI) cls [(o, .inr (4, [.null, .null, .null, .int 0, .int 0, .int 0, .int 0, .int 0, .null, .null, .int 0, .int 0, .int 0, .int 0, .int 0, .int 0, .int 0, .int 0, .null])), (q_1, .inl (g_2, 220, .inr (.inl f_160)))] H := hP
  have hD : va_D A [(o, .inr (4, [.null, .null, .null, .int 0, .int 0, .int 0, .int 0, .int 0, .null, .null, .int 0, .int 0, .int 0, .int 0, .int 0, .int 0, .int 0, .int 0, .null])), (q_1, .inl (g_2, 220, .inr (.inl f_160)))] := hD
  refine lv_dup hx hb d_M_init_910 rfl ?_
  refine lv_sipush (v := 158) hx hb d_M_init_911 (by decide) ?_
  refine lv_lconst (v := 0) hx hb d_M_init_914 (by decide) ?_
  refine va_lastG hx hb hK hP hD hS 1 0 rfl rfl (by unfold vp_in; decide) d_M_init_915 (fun f_161 H locs hP hD hS => ?_)
  have hP : va_P (dC, dI) cls [(o, .inr (4, [.null, .null, .null, .int 0, .int 0, .int 0, .int 0, .int 0, .null, .null, .int 0, .int 0, .int 0, .int 0, .int 0, .int 0, .int 0, .int 0, .null])), (q_1, .inl (g_2, 220, .inr (.inl f_161)))] H := hP
  have hD : va_D A [(o, .inr (4, [.null, .null, .null, .int 0, .int 0, .int 0, .int 0, .int 0, .null, .null, .int 0, .int 0, .int 0, .int 0, .int 0, .int 0, .int 0, .int 0, .null])), (q_1, .inl (g_2, 220, .inr (.inl f_161)))] := hD
  refine lv_dup hx hb d_M_init_916 rfl ?_
  refine lv_sipush (v := 159) hx hb d_M_init_917 (by decide) ?_
  refine lv_lconst (v := 0) hx hb d_M_init_920 (by decide) ?_
  refine va_lastG hx hb hK hP hD hS 1 0 rfl rfl (by unfold vp_in; decide) d_M_init_921 (fun f_162 H locs hP hD hS => ?_)
  have hP : va_P (dC, dI) cls [(o, .inr (4, [.null, .null, .null, .int 0, .int 0, .int 0, .int 0, .int 0, .null, .null, .int 0, .int 0, .int 0, .int 0, .int 0, .int 0, .int 0, .int 0, .null])), (q_1, .inl (g_2, 220, .inr (.inl f_162)))] H := hP
  have hD : va_D A [(o, .inr (4, [.null, .null, .null, .int 0, .int 0, .int 0, .int 0, .int 0, .null, .null, .int 0, .int 0, .int 0, .int 0, .int 0, .int 0, .int 0, .int 0, .null])), (q_1, .inl (g_2, 220, .inr (.inl f_162)))] := hD
  refine lv_dup hx hb d_M_init_922 rfl ?_
  refine lv_sipush (v := 160) hx hb d_M_init_923 (by decide) ?_
  refine lv_ldc2 (v := 7813573148593381746) hx hb hown (ht _ k_606) d_M_init_926 ?_
  refine va_lastG hx hb hK hP hD hS 1 0 rfl rfl (by unfold vp_in; decide) d_M_init_929 (fun f_163 H locs hP hD hS => ?_)
  have hP : va_P (dC, dI) cls [(o, .inr (4, [.null, .null, .null, .int 0, .int 0, .int 0, .int 0, .int 0, .null, .null, .int 0, .int 0, .int 0, .int 0, .int 0, .int 0, .int 0, .int 0, .null])), (q_1, .inl (g_2, 220, .inr (.inl f_163)))] H := hP
  have hD : va_D A [(o, .inr (4, [.null, .null, .null, .int 0, .int 0, .int 0, .int 0, .int 0, .null, .null, .int 0, .int 0, .int 0, .int 0, .int 0, .int 0, .int 0, .int 0, .null])), (q_1, .inl (g_2, 220, .inr (.inl f_163)))] := hD
  refine lv_dup hx hb d_M_init_930 rfl ?_
  refine lv_sipush (v := 161) hx hb d_M_init_931 (by decide) ?_
  refine lv_ldc2 (v := 8358680908399640576) hx hb hown (ht _ k_607) d_M_init_934 ?_
  refine va_lastG hx hb hK hP hD hS 1 0 rfl rfl (by unfold vp_in; decide) d_M_init_937 (fun f_164 H locs hP hD hS => ?_)
  have hP : va_P (dC, dI) cls [(o, .inr (4, [.null, .null, .null, .int 0, .int 0, .int 0, .int 0, .int 0, .null, .null, .int 0, .int 0, .int 0, .int 0, .int 0, .int 0, .int 0, .int 0, .null])), (q_1, .inl (g_2, 220, .inr (.inl f_164)))] H := hP
  have hD : va_D A [(o, .inr (4, [.null, .null, .null, .int 0, .int 0, .int 0, .int 0, .int 0, .null, .null, .int 0, .int 0, .int 0, .int 0, .int 0, .int 0, .int 0, .int 0, .null])), (q_1, .inl (g_2, 220, .inr (.inl f_164)))] := hD
  refine lv_dup hx hb d_M_init_938 rfl ?_
  refine lv_sipush (v := 162) hx hb d_M_init_939 (by decide) ?_
  refine lv_lconst (v := 0) hx hb d_M_init_942 (by decide) ?_
  refine va_lastG hx hb hK hP hD hS 1 0 rfl rfl (by unfold vp_in; decide) d_M_init_943 (fun f_165 H locs hP hD hS => ?_)
  have hP : va_P (dC, dI) cls [(o, .inr (4, [.null, .null, .null, .int 0, .int 0, .int 0, .int 0, .int 0, .null, .null, .int 0, .int 0, .int 0, .int 0, .int 0, .int 0, .int 0, .int 0, .null])), (q_1, .inl (g_2, 220, .inr (.inl f_165)))] H := hP
  have hD : va_D A [(o, .inr (4, [.null, .null, .null, .int 0, .int 0, .int 0, .int 0, .int 0, .null, .null, .int 0, .int 0, .int 0, .int 0, .int 0, .int 0, .int 0, .int 0, .null])), (q_1, .inl (g_2, 220, .inr (.inl f_165)))] := hD
  refine lv_dup hx hb d_M_init_944 rfl ?_
  refine lv_sipush (v := 163) hx hb d_M_init_945 (by decide) ?_
  refine lv_lconst (v := 0) hx hb d_M_init_948 (by decide) ?_
  refine va_lastG hx hb hK hP hD hS 1 0 rfl rfl (by unfold vp_in; decide) d_M_init_949 (fun f_166 H locs hP hD hS => ?_)
  have hP : va_P (dC, dI) cls [(o, .inr (4, [.null, .null, .null, .int 0, .int 0, .int 0, .int 0, .int 0, .null, .null, .int 0, .int 0, .int 0, .int 0, .int 0, .int 0, .int 0, .int 0, .null])), (q_1, .inl (g_2, 220, .inr (.inl f_166)))] H := hP
  have hD : va_D A [(o, .inr (4, [.null, .null, .null, .int 0, .int 0, .int 0, .int 0, .int 0, .null, .null, .int 0, .int 0, .int 0, .int 0, .int 0, .int 0, .int 0, .int 0, .null])), (q_1, .inl (g_2, 220, .inr (.inl f_166)))] := hD
  refine lv_dup hx hb d_M_init_950 rfl ?_
  refine lv_sipush (v := 164) hx hb d_M_init_951 (by decide) ?_
  refine lv_ldc2 (v := 7237123391355748352) hx hb hown (ht _ k_608) d_M_init_954 ?_
  refine va_lastG hx hb hK hP hD hS 1 0 rfl rfl (by unfold vp_in; decide) d_M_init_957 (fun f_167 H locs hP hD hS => ?_)
  have hP : va_P (dC, dI) cls [(o, .inr (4, [.null, .null, .null, .int 0, .int 0, .int 0, .int 0, .int 0, .null, .null, .int 0, .int 0, .int 0, .int 0, .int 0, .int 0, .int 0, .int 0, .null])), (q_1, .inl (g_2, 220, .inr (.inl f_167)))] H := hP
  have hD : va_D A [(o, .inr (4, [.null, .null, .null, .int 0, .int 0, .int 0, .int 0, .int 0, .null, .null, .int 0, .int 0, .int 0, .int 0, .int 0, .int 0, .int 0, .int 0, .null])), (q_1, .inl (g_2, 220, .inr (.inl f_167)))] := hD
  refine lv_dup hx hb d_M_init_958 rfl ?_
  refine lv_sipush (v := 165) hx hb d_M_init_959 (by decide) ?_
  refine lv_lconst (v := 0) hx hb d_M_init_962 (by decide) ?_
  refine va_lastG hx hb hK hP hD hS 1 0 rfl rfl (by unfold vp_in; decide) d_M_init_963 (fun f_168 H locs hP hD hS => ?_)
  have hP : va_P (dC, dI) cls [(o, .inr (4, [.null, .null, .null, .int 0, .int 0, .int 0, .int 0, .int 0, .null, .null, .int 0, .int 0, .int 0, .int 0, .int 0, .int 0, .int 0, .int 0, .null])), (q_1, .inl (g_2, 220, .inr (.inl f_168)))] H := hP
  have hD : va_D A [(o, .inr (4, [.null, .null, .null, .int 0, .int 0, .int 0, .int 0, .int 0, .null, .null, .int 0, .int 0, .int 0, .int 0, .int 0, .int 0, .int 0, .int 0, .null])), (q_1, .inl (g_2, 220, .inr (.inl f_168)))] := hD
  refine lv_dup hx hb d_M_init_964 rfl ?_
  refine lv_sipush (v := 166) hx hb d_M_init_965 (by decide) ?_
  refine lv_lconst (v := 0) hx hb d_M_init_968 (by decide) ?_
  refine va_lastG hx hb hK hP hD hS 1 0 rfl rfl (by unfold vp_in; decide) d_M_init_969 (fun f_169 H locs hP hD hS => ?_)
  have hP : va_P (dC, dI) cls [(o, .inr (4, [.null, .null, .null, .int 0, .int 0, .int 0, .int 0, .int 0, .null, .null, .int 0, .int 0, .int 0, .int 0, .int 0, .int 0, .int 0, .int 0, .null])), (q_1, .inl (g_2, 220, .inr (.inl f_169)))] H := hP
  have hD : va_D A [(o, .inr (4, [.null, .null, .null, .int 0, .int 0, .int 0, .int 0, .int 0, .null, .null, .int 0, .int 0, .int 0, .int 0, .int 0, .int 0, .int 0, .int 0, .null])), (q_1, .inl (g_2, 220, .inr (.inl f_169)))] := hD
  refine lv_dup hx hb d_M_init_970 rfl ?_
  refine lv_sipush (v := 167) hx hb d_M_init_971 (by decide) ?_
  refine lv_lconst (v := 0) hx hb d_M_init_974 (by decide) ?_
  refine va_lastG hx hb hK hP hD hS 1 0 rfl rfl (by unfold vp_in; decide) d_M_init_975 (fun f_170 H locs hP hD hS => ?_)
  have hP : va_P (dC, dI) cls [(o, .inr (4, [.null, .null, .null, .int 0, .int 0, .int 0, .int 0, .int 0, .null, .null, .int 0, .int 0, .int 0, .int 0, .int 0, .int 0, .int 0, .int 0, .null])), (q_1, .inl (g_2, 220, .inr (.inl f_170)))] H := hP
  have hD : va_D A [(o, .inr (4, [.null, .null, .null, .int 0, .int 0, .int 0, .int 0, .int 0, .null, .null, .int 0, .int 0, .int 0, .int 0, .int 0, .int 0, .int 0, .int 0, .null])), (q_1, .inl (g_2, 220, .inr (.inl f_170)))] := hD
  refine lv_dup hx hb d_M_init_976 rfl ?_
  refine lv_sipush (v := 168) hx hb d_M_init_977 (by decide) ?_
  refine lv_ldc2 (v := 7454583283205013504) hx hb hown (ht _ k_609) d_M_init_980 ?_
  refine va_lastG hx hb hK hP hD hS 1 0 rfl rfl (by unfold vp_in; decide) d_M_init_983 (fun f_171 H locs hP hD hS => ?_)
  have hP : va_P (dC, dI) cls [(o, .inr (4, [.null, .null, .null, .int 0, .int 0, .int 0, .int 0, .int 0, .null, .null, .int 0, .int 0, .int 0, .int 0, .int 0, .int 0, .int 0, .int 0, .null])), (q_1, .inl (g_2, 220, .inr (.inl f_171)))] H := hP
  have hD : va_D A [(o, .inr (4, [.null, .null, .null, .int 0, .int 0, .int 0, .int 0, .int 0, .null, .null, .int 0, .int 0, .int 0, .int 0, .int 0, .int 0, .int 0, .int 0, .null])), (q_1, .inl (g_2, 220, .inr (.inl f_171)))] := hD
  refine lv_dup hx hb d_M_init_984 rfl ?_
  refine lv_sipush (v := 169) hx hb d_M_init_985 (by decide) ?_
  refine lv_lconst (v := 0) hx hb d_M_init_988 (by decide) ?_
  refine va_lastG hx hb hK hP hD hS 1 0 rfl rfl (by unfold vp_in; decide) d_M_init_989 (fun f_172 H locs hP hD hS => ?_)
  have hP : va_P (dC, dI) cls [(o, .inr (4, [.null, .null, .null, .int 0, .int 0, .int 0, .int 0, .int 0, .null, .null, .int 0, .int 0, .int 0, .int 0, .int 0, .int 0, .int 0, .int 0, .null])), (q_1, .inl (g_2, 220, .inr (.inl f_172)))] H := hP
  have hD : va_D A [(o, .inr (4, [.null, .null, .null, .int 0, .int 0, .int 0, .int 0, .int 0, .null, .null, .int 0, .int 0, .int 0, .int 0, .int 0, .int 0, .int 0, .int 0, .null])), (q_1, .inl (g_2, 220, .inr (.inl f_172)))] := hD
  refine lv_dup hx hb d_M_init_990 rfl ?_
  refine lv_sipush (v := 170) hx hb d_M_init_991 (by decide) ?_
  refine lv_lconst (v := 0) hx hb d_M_init_994 (by decide) ?_
  refine va_lastG hx hb hK hP hD hS 1 0 rfl rfl (by unfold vp_in; decide) d_M_init_995 (fun f_173 H locs hP hD hS => ?_)
  have hP : va_P (dC, dI) cls [(o, .inr (4, [.null, .null, .null, .int 0, .int 0, .int 0, .int 0, .int 0, .null, .null, .int 0, .int 0, .int 0, .int 0, .int 0, .int 0, .int 0, .int 0, .null])), (q_1, .inl (g_2, 220, .inr (.inl f_173)))] H := hP
  have hD : va_D A [(o, .inr (4, [.null, .null, .null, .int 0, .int 0, .int 0, .int 0, .int 0, .null, .null, .int 0, .int 0, .int 0, .int 0, .int 0, .int 0, .int 0, .int 0, .null])), (q_1, .inl (g_2, 220, .inr (.inl f_173)))] := hD
  refine lv_dup hx hb d_M_init_996 rfl ?_
  refine lv_sipush (v := 171) hx hb d_M_init_997 (by decide) ?_
  refine lv_lconst (v := 0) hx hb d_M_init_1000 (by decide) ?_
  refine va_lastG hx hb hK hP hD hS 1 0 rfl rfl (by unfold vp_in; decide) d_M_init_1001 (fun f_174 H locs hP hD hS => ?_)
  have hP : va_P (dC, dI) cls [(o, .inr (4, [.null, .null, .null, .int 0, .int 0, .int 0, .int 0, .int 0, .null, .null, .int 0, .int 0, .int 0, .int 0, .int 0, .int 0, .int 0, .int 0, .null])), (q_1, .inl (g_2, 220, .inr (.inl f_174)))] H := hP
  have hD : va_D A [(o, .inr (4, [.null, .null, .null, .int 0, .int 0, .int 0, .int 0, .int 0, .null, .null, .int 0, .int 0, .int 0, .int 0, .int 0, .int 0, .int 0, .int 0, .null])), (q_1, .inl (g_2, 220, .inr (.inl f_174)))] := hD
  refine lv_dup hx hb d_M_init_1002 rfl ?_
  refine lv_sipush (v := 172) hx hb d_M_init_1003 (by decide) ?_
  refine lv_ldc2 (v := 7450361158554353664) hx hb hown (ht _ k_610) d_M_init_1006 ?_
  refine va_lastG hx hb hK hP hD hS 1 0 rfl rfl (by unfold vp_in; decide) d_M_init_1009 (fun f_175 H locs hP hD hS => ?_)
  have hP : va_P (dC, dI) cls [(o, .inr (4, [.null, .null, .null, .int 0, .int 0, .int 0, .int 0, .int 0, .null, .null, .int 0, .int 0, .int 0, .int 0, .int 0, .int 0, .int 0, .int 0, .null])), (q_1, .inl (g_2, 220, .inr (.inl f_175)))] H := hP
  have hD : va_D A [(o, .inr (4, [.null, .null, .null, .int 0, .int 0, .int 0, .int 0, .int 0, .null, .null, .int 0, .int 0, .int 0, .int 0, .int 0, .int 0, .int 0, .int 0, .null])), (q_1, .inl (g_2, 220, .inr (.inl f_175)))] := hD
  refine lv_dup hx hb d_M_init_1010 rfl ?_
  refine lv_sipush (v := 173) hx hb d_M_init_1011 (by decide) ?_
  refine lv_lconst (v := 0) hx hb d_M_init_1014 (by decide) ?_
  refine va_lastG hx hb hK hP hD hS 1 0 rfl rfl (by unfold vp_in; decide) d_M_init_1015 (fun f_176 H locs hP hD hS => ?_)
  have hP : va_P (dC, dI) cls [(o, .inr (4, [.null, .null, .null, .int 0, .int 0, .int 0, .int 0, .int 0, .null, .null, .int 0, .int 0, .int 0, .int 0, .int 0, .int 0, .int 0, .int 0, .null])), (q_1, .inl (g_2, 220, .inr (.inl f_176)))] H := hP
  have hD : va_D A [(o, .inr (4, [.null, .null, .null, .int 0, .int 0, .int 0, .int 0, .int 0, .null, .null, .int 0, .int 0, .int 0, .int 0, .int 0, .int 0, .int 0, .int 0, .null])), (q_1, .inl (g_2, 220, .inr (.inl f_176)))] := hD
  refine lv_dup hx hb d_M_init_1016 rfl ?_
  refine lv_sipush (v := 174) hx hb d_M_init_1017 (by decide) ?_
  refine lv_lconst (v := 0) hx hb d_M_init_1020 (by decide) ?_
  refine va_lastG hx hb hK hP hD hS 1 0 rfl rfl (by unfold vp_in; decide) d_M_init_1021 (fun f_177 H locs hP hD hS => ?_)
  have hP : va_P (dC, dI) cls [(o, .inr (4, [.null, .null, .null, .int 0, .int 0, .int 0, .int 0, .int 0, .null, .null, .int 0, .int 0, .int 0, .int 0, .int 0, .int 0, .int 0, .int 0, .null])), (q_1, .inl (g_2, 220, .inr (.inl f_177)))] H := hP
  have hD : va_D A [(o, .inr (4, [.null, .null, .null, .int 0, .int 0, .int 0, .int 0, .int 0, .null, .null, .int 0, .int 0, .int 0, .int 0, .int 0, .int 0, .int 0, .int 0, .null])), (q_1, .inl (g_2, 220, .inr (.inl f_177)))] := hD
  refine lv_dup hx hb d_M_init_1022 rfl ?_
  refine lv_sipush (v := 175) hx hb d_M_init_1023 (by decide) ?_
  refine lv_lconst (v := 0) hx hb d_M_init_1026 (by decide) ?_
  refine va_lastG hx hb hK hP hD hS 1 0 rfl rfl (by unfold vp_in; decide) d_M_init_1027 (fun f_178 H locs hP hD hS => ?_)
  have hP : va_P (dC, dI) cls [(o, .inr (4, [.null, .null, .null, .int 0, .int 0, .int 0, .int 0, .int 0, .null, .null, .int 0, .int 0, .int 0, .int 0, .int 0, .int 0, .int 0, .int 0, .null])), (q_1, .inl (g_2, 220, .inr (.inl f_178)))] H := hP
  have hD : va_D A [(o, .inr (4, [.null, .null, .null, .int 0, .int 0, .int 0, .int 0, .int 0, .null, .null, .int 0, .int 0, .int 0, .int 0, .int 0, .int 0, .int 0, .int 0, .null])), (q_1, .inl (g_2, 220, .inr (.inl f_178)))] := hD
  refine lv_dup hx hb d_M_init_1028 rfl ?_
  refine lv_sipush (v := 176) hx hb d_M_init_1029 (by decide) ?_
  refine lv_ldc2 (v := 7814871253394653184) hx hb hown (ht _ k_611) d_M_init_1032 ?_
  refine va_lastG hx hb hK hP hD hS 1 0 rfl rfl (by unfold vp_in; decide) d_M_init_1035 (fun f_179 H locs hP hD hS => ?_)
  have hP : va_P (dC, dI) cls [(o, .inr (4, [.null, .null, .null, .int 0, .int 0, .int 0, .int 0, .int 0, .null, .null, .int 0, .int 0, .int 0, .int 0, .int 0, .int 0, .int 0, .int 0, .null])), (q_1, .inl (g_2, 220, .inr (.inl f_179)))] H := hP
  have hD : va_D A [(o, .inr (4, [.null, .null, .null, .int 0, .int 0, .int 0, .int 0, .int 0, .null, .null, .int 0, .int 0, .int 0, .int 0, .int 0, .int 0, .int 0, .int 0, .null])), (q_1, .inl (g_2, 220, .inr (.inl f_179)))] := hD
  refine lv_dup hx hb d_M_init_1036 rfl ?_
  refine lv_sipush (v := 177) hx hb d_M_init_1037 (by decide) ?_
  refine lv_lconst (v := 0) hx hb d_M_init_1040 (by decide) ?_
  refine va_lastG hx hb hK hP hD hS 1 0 rfl rfl (by unfold vp_in; decide) d_M_init_1041 (fun f_180 H locs hP hD hS => ?_)
  have hP : va_P (dC, dI) cls [(o, .inr (4, [.null, .null, .null, .int 0, .int 0, .int 0, .int 0, .int 0, .null, .null, .int 0, .int 0, .int 0, .int 0, .int 0, .int 0, .int 0, .int 0, .null])), (q_1, .inl (g_2, 220, .inr (.inl f_180)))] H := hP
  have hD : va_D A [(o, .inr (4, [.null, .null, .null, .int 0, .int 0, .int 0, .int 0, .int 0, .null, .null, .int 0, .int 0, .int 0, .int 0, .int 0, .int 0, .int 0, .int 0, .null])), (q_1, .inl (g_2, 220, .inr (.inl f_180)))] := hD
  refine lv_dup hx hb d_M_init_1042 rfl ?_
  refine lv_sipush (v := 178) hx hb d_M_init_1043 (by decide) ?_
  refine lv_lconst (v := 0) hx hb d_M_init_1046 (by decide) ?_
  refine va_lastG hx hb hK hP hD hS 1 0 rfl rfl (by unfold vp_in; decide) d_M_init_1047 (fun f_181 H locs hP hD hS => ?_)
  have hP : va_P (dC, dI) cls [(o, .inr (4, [.null, .null, .null, .int 0, .int 0, .int 0, .int 0, .int 0, .null, .null, .int 0, .int 0, .int 0, .int 0, .int 0, .int 0, .int 0, .int 0, .null])), (q_1, .inl (g_2, 220, .inr (.inl f_181)))] H := hP
  have hD : va_D A [(o, .inr (4, [.null, .null, .null, .int 0, .int 0, .int 0, .int 0, .int 0, .null, .null, .int 0, .int 0, .int 0, .int 0, .int 0, .int 0, .int 0, .int 0, .null])), (q_1, .inl (g_2, 220, .inr (.inl f_181)))] := hD
  refine lv_dup hx hb d_M_init_1048 rfl ?_
  refine lv_sipush (v := 179) hx hb d_M_init_1049 (by decide) ?_
  refine lv_lconst (v := 0) hx hb d_M_init_1052 (by decide) ?_
  refine va_lastG hx hb hK hP hD hS 1 0 rfl rfl (by unfold vp_in; decide) d_M_init_1053 (fun f_182 H locs hP hD hS => ?_)
  have hP : va_P (dC, dI) cls [(o, .inr (4, [.null, .null, .null, .int 0, .int 0, .int 0, .int 0, .int 0, .null, .null, .int 0, .int 0, .int 0, .int 0, .int 0, .int 0, .int 0, .int 0, .null])), (q_1, .inl (g_2, 220, .inr (.inl f_182)))] H := hP
  have hD : va_D A [(o, .inr (4, [.null, .null, .null, .int 0, .int 0, .int 0, .int 0, .int 0, .null, .null, .int 0, .int 0, .int 0, .int 0, .int 0, .int 0, .int 0, .int 0, .null])), (q_1, .inl (g_2, 220, .inr (.inl f_182)))] := hD
  refine lv_dup hx hb d_M_init_1054 rfl ?_
  refine lv_sipush (v := 180) hx hb d_M_init_1055 (by decide) ?_
  refine lv_ldc2 (v := 7810649128743993344) hx hb hown (ht _ k_612) d_M_init_1058 ?_
  refine va_lastG hx hb hK hP hD hS 1 0 rfl rfl (by unfold vp_in; decide) d_M_init_1061 (fun f_183 H locs hP hD hS => ?_)
  have hP : va_P (dC, dI) cls [(o, .inr (4, [.null, .null, .null, .int 0, .int 0, .int 0, .int 0, .int 0, .null, .null, .int 0, .int 0, .int 0, .int 0, .int 0, .int 0, .int 0, .int 0, .null])), (q_1, .inl (g_2, 220, .inr (.inl f_183)))] H := hP
  have hD : va_D A [(o, .inr (4, [.null, .null, .null, .int 0, .int 0, .int 0, .int 0, .int 0, .null, .null, .int 0, .int 0, .int 0, .int 0, .int 0, .int 0, .int 0, .int 0, .null])), (q_1, .inl (g_2, 220, .inr (.inl f_183)))] := hD
  refine lv_dup hx hb d_M_init_1062 rfl ?_
  refine lv_sipush (v := 181) hx hb d_M_init_1063 (by decide) ?_
  refine lv_lconst (v := 0) hx hb d_M_init_1066 (by decide) ?_
  refine va_lastG hx hb hK hP hD hS 1 0 rfl rfl (by unfold vp_in; decide) d_M_init_1067 (fun f_184 H locs hP hD hS => ?_)
  have hP : va_P (dC, dI) cls [(o, .inr (4, [.null, .null, .null, .int 0, .int 0, .int 0, .int 0, .int 0, .null, .null, .int 0, .int 0, .int 0, .int 0, .int 0, .int 0, .int 0, .int 0, .null])), (q_1, .inl (g_2, 220, .inr (.inl f_184)))] H := hP
  have hD : va_D A [(o, .inr (4, [.null, .null, .null, .int 0, .int 0, .int 0, .int 0, .int 0, .null, .null, .int 0, .int 0, .int 0, .int 0, .int 0, .int 0, .int 0, .int 0, .null])), (q_1, .inl (g_2, 220, .inr (.inl f_184)))] := hD
  refine lv_dup hx hb d_M_init_1068 rfl ?_
  refine lv_sipush (v := 182) hx hb d_M_init_1069 (by decide) ?_
  refine lv_lconst (v := 0) hx hb d_M_init_1072 (by decide) ?_
  refine va_lastG hx hb hK hP hD hS 1 0 rfl rfl (by unfold vp_in; decide) d_M_init_1073 (fun f_185 H locs hP hD hS => ?_)
  have hP : va_P (dC, dI) cls [(o, .inr (4, [.null, .null, .null, .int 0, .int 0, .int 0, .int 0, .int 0, .null, .null, .int 0, .int 0, .int 0, .int 0, .int 0, .int 0, .int 0, .int 0, .null])), (q_1, .inl (g_2, 220, .inr (.inl f_185)))] H := hP
  have hD : va_D A [(o, .inr (4, [.null, .null, .null, .int 0, .int 0, .int 0, .int 0, .int 0, .null, .null, .int 0, .int 0, .int 0, .int 0, .int 0, .int 0, .int 0, .int 0, .null])), (q_1, .inl (g_2, 220, .inr (.inl f_185)))] := hD
  refine lv_dup hx hb d_M_init_1074 rfl ?_
  refine lv_sipush (v := 183) hx hb d_M_init_1075 (by decide) ?_
  refine lv_lconst (v := 0) hx hb d_M_init_1078 (by decide) ?_
  refine va_lastG hx hb hK hP hD hS 1 0 rfl rfl (by unfold vp_in; decide) d_M_init_1079 (fun f_186 H locs hP hD hS => ?_)
  have hP : va_P (dC, dI) cls [(o, .inr (4, [.null, .null, .null, .int 0, .int 0, .int 0, .int 0, .int 0, .null, .null, .int 0, .int 0, .int 0, .int 0, .int 0, .int 0, .int 0, .int 0, .null])), (q_1, .inl (g_2, 220, .inr (.inl f_186)))] H := hP
  have hD : va_D A [(o, .inr (4, [.null, .null, .null, .int 0, .int 0, .int 0, .int 0, .int 0, .null, .null, .int 0, .int 0, .int 0, .int 0, .int 0, .int 0, .int 0, .int 0, .null])), (q_1, .inl (g_2, 220, .inr (.inl f_186)))] := hD
  refine lv_dup hx hb d_M_init_1080 rfl ?_
  refine lv_sipush (v := 184) hx hb d_M_init_1081 (by decide) ?_
  refine lv_ldc2 (v := 7309623670199025664) hx hb hown (ht _ k_613) d_M_init_1084 ?_
  refine va_lastG hx hb hK hP hD hS 1 0 rfl rfl (by unfold vp_in; decide) d_M_init_1087 (fun f_187 H locs hP hD hS => ?_)
  have hP : va_P (dC, dI) cls [(o, .inr (4, [.null, .null, .null, .int 0, .int 0, .int 0, .int 0, .int 0, .null, .null, .int 0, .int 0, .int 0, .int 0, .int 0, .int 0, .int 0, .int 0, .null])), (q_1, .inl (g_2, 220, .inr (.inl f_187)))] H := hP
  have hD : va_D A [(o, .inr (4, [.null, .null, .null, .int 0, .int 0, .int 0, .int 0, .int 0, .null, .null, .int 0, .int 0, .int 0, .int 0, .int 0, .int 0, .int 0, .int 0, .null])), (q_1, .inl (g_2, 220, .inr (.inl f_187)))] := hD
  refine lv_dup hx hb d_M_init_1088 rfl ?_
  refine lv_sipush (v := 185) hx hb d_M_init_1089 (by decide) ?_
  refine lv_lconst (v := 0) hx hb d_M_init_1092 (by decide) ?_
  refine va_lastG hx hb hK hP hD hS 1 0 rfl rfl (by unfold vp_in; decide) d_M_init_1093 (fun f_188 H locs hP hD hS => ?_)
  have hP : va_P (dC, dI) cls [(o, .inr (4, [.null, .null, .null, .int 0, .int 0, .int 0, .int 0, .int 0, .null, .null, .int 0, .int 0, .int 0, .int 0, .int 0, .int 0, .int 0, .int 0, .null])), (q_1, .inl (g_2, 220, .inr (.inl f_188)))] H := hP
  have hD : va_D A [(o, .inr (4, [.null, .null, .null, .int 0, .int 0, .int 0, .int 0, .int 0, .null, .null, .int 0, .int 0, .int 0, .int 0, .int 0, .int 0, .int 0, .int 0, .null])), (q_1, .inl (g_2, 220, .inr (.inl f_188)))] := hD
  refine lv_dup hx hb d_M_init_1094 rfl ?_
  refine lv_sipush (v := 186) hx hb d_M_init_1095 (by decide) ?_
  refine lv_lconst (v := 0) hx hb d_M_init_1098 (by decide) ?_
  refine va_lastG hx hb hK hP hD hS 1 0 rfl rfl (by unfold vp_in; decide) d_M_init_1099 (fun f_189 H locs hP hD hS => ?_)
  have hP : va_P (dC, dI) cls [(o, .inr (4, [.null, .null, .null, .int 0, .int 0, .int 0, .int 0, .int 0, .null, .null, .int 0, .int 0, .int 0, .int 0, .int 0, .int 0, .int 0, .int 0, .null])), (q_1, .inl (g_2, 220, .inr (.inl f_189)))] H := hP
  have hD : va_D A [(o, .inr (4, [.null, .null, .null, .int 0, .int 0, .int 0, .int 0, .int 0, .null, .null, .int 0, .int 0, .int 0, .int 0, .int 0, .int 0, .int 0, .int 0, .null])), (q_1, .inl (g_2, 220, .inr (.inl f_189)))] := hD
  refine lv_dup hx hb d_M_init_1100 rfl ?_
  refine lv_sipush (v := 187) hx hb d_M_init_1101 (by decide) ?_
  refine lv_lconst (v := 0) hx hb d_M_init_1104 (by decide) ?_
  refine va_lastG hx hb hK hP hD hS 1 0 rfl rfl (by unfold vp_in; decide) d_M_init_1105 (fun f_190 H locs hP hD hS => ?_)
  have hP : va_P (dC, dI) cls [(o, .inr (4, [.null, .null, .null, .int 0, .int 0, .int 0, .int 0, .int 0, .null, .null, .int 0, .int 0, .int 0, .int 0, .int 0, .int 0, .int 0, .int 0, .null])), (q_1, .inl (g_2, 220, .inr (.inl f_190)))] H := hP
  have hD : va_D A [(o, .inr (4, [.null, .null, .null, .int 0, .int 0, .int 0, .int 0, .int 0, .null, .null, .int 0, .int 0, .int 0, .int 0, .int 0, .int 0, .int 0, .int 0, .null])), (q_1, .inl (g_2, 220, .inr (.inl f_190)))] := hD
  refine lv_dup hx hb d_M_init_1106 rfl ?_
  refine lv_sipush (v := 188) hx hb d_M_init_1107 (by decide) ?_
  refine lv_ldc2 (v := 7954764316819849216) hx hb hown (ht _ k_614) d_M_init_1110 ?_
  refine va_lastG hx hb hK hP hD hS 1 0 rfl rfl (by unfold vp_in; decide) d_M_init_1113 (fun f_191 H locs hP hD hS => ?_)
  have hP : va_P (dC, dI) cls [(o, .inr (4, [.null, .null, .null, .int 0, .int 0, .int 0, .int 0, .int 0, .null, .null, .int 0, .int 0, .int 0, .int 0, .int 0, .int 0, .int 0, .int 0, .null])), (q_1, .inl (g_2, 220, .inr (.inl f_191)))] H := hP
  have hD : va_D A [(o, .inr (4, [.null, .null, .null, .int 0, .int 0, .int 0, .int 0, .int 0, .null, .null, .int 0, .int 0, .int 0, .int 0, .int 0, .int 0, .int 0, .int 0, .null])), (q_1, .inl (g_2, 220, .inr (.inl f_191)))] := hD
  refine lv_dup hx hb d_M_init_1114 rfl ?_
  refine lv_sipush (v := 189) hx hb d_M_init_1115 (by decide) ?_
  refine lv_lconst (v := 0) hx hb d_M_init_1118 (by decide) ?_
  refine va_lastG hx hb hK hP hD hS 1 0 rfl rfl (by unfold vp_in; decide) d_M_init_1119 (fun f_192 H locs hP hD hS => ?_)
  have hP : va_P (dC, dI) cls [(o, .inr (4, [.null, .null, .null, .int 0, .int 0, .int 0, .int 0, .int 0, .null, .null, .int 0, .int 0, .int 0, .int 0, .int 0, .int 0, .int 0, .int 0, .null])), (q_1, .inl (g_2, 220, .inr (.inl f_192)))] H := hP
  have hD : va_D A [(o, .inr (4, [.null, .null, .null, .int 0, .int 0, .int 0, .int 0, .int 0, .null, .null, .int 0, .int 0, .int 0, .int 0, .int 0, .int 0, .int 0, .int 0, .null])), (q_1, .inl (g_2, 220, .inr (.inl f_192)))] := hD
  refine lv_dup hx hb d_M_init_1120 rfl ?_
  refine lv_sipush (v := 190) hx hb d_M_init_1121 (by decide) ?_
  refine lv_lconst (v := 0) hx hb d_M_init_1124 (by decide) ?_
  refine va_lastG hx hb hK hP hD hS 1 0 rfl rfl (by unfold vp_in; decide) d_M_init_1125 (fun f_193 H locs hP hD hS => ?_)
  have hP : va_P (dC, dI) cls [(o, .inr (4, [.null, .null, .null, .int 0, .int 0, .int 0, .int 0, .int 0, .null, .null, .int 0, .int 0, .int 0, .int 0, .int 0, .int 0, .int 0, .int 0, .null])), (q_1, .inl (g_2, 220, .inr (.inl f_193)))] H := hP
  have hD : va_D A [(o, .inr (4, [.null, .null, .null, .int 0, .int 0, .int 0, .int 0, .int 0, .null, .null, .int 0, .int 0, .int 0, .int 0, .int 0, .int 0, .int 0, .int 0, .null])), (q_1, .inl (g_2, 220, .inr (.inl f_193)))] := hD
  refine lv_dup hx hb d_M_init_1126 rfl ?_
  refine lv_sipush (v := 191) hx hb d_M_init_1127 (by decide) ?_
  refine lv_lconst (v := 0) hx hb d_M_init_1130 (by decide) ?_
  refine va_lastG hx hb hK hP hD hS 1 0 rfl rfl (by unfold vp_in; decide) d_M_init_1131 (fun f_194 H locs hP hD hS => ?_)
  have hP : va_P (dC, dI) cls [(o, .inr (4, [.null, .null, .null, .int 0, .int 0, .int 0, .int 0, .int 0, .null, .null, .int 0, .int 0, .int 0, .int 0, .int 0, .int 0, .int 0, .int 0, .null])), (q_1, .inl (g_2, 220, .inr (.inl f_194)))] H := hP
  have hD : va_D A [(o, .inr (4, [.null, .null, .null, .int 0, .int 0, .int 0, .int 0, .int 0, .null, .null, .int 0, .int 0, .int 0, .int 0, .int 0, .int 0, .int 0, .int 0, .null])), (q_1, .inl (g_2, 220, .inr (.inl f_194)))] := hD
  refine lv_dup hx hb d_M_init_1132 rfl ?_
  refine lv_sipush (v := 192) hx hb d_M_init_1133 (by decide) ?_
  refine lv_ldc2 (v := 7582776870553613312) hx hb hown (ht _ k_615) d_M_init_1136 ?_
  refine va_lastG hx hb hK hP hD hS 1 0 rfl rfl (by unfold vp_in; decide) d_M_init_1139 (fun f_195 H locs hP hD hS => ?_)
  have hP : va_P (dC, dI) cls [(o, .inr (4, [.null, .null, .null, .int 0, .int 0, .int 0, .int 0, .int 0, .null, .null, .int 0, .int 0, .int 0, .int 0, .int 0, .int 0, .int 0, .int 0, .null])), (q_1, .inl (g_2, 220, .inr (.inl f_195)))] H := hP
  have hD : va_D A [(o, .inr (4, [.null, .null, .null, .int 0, .int 0, .int 0, .int 0, .int 0, .null, .null, .int 0, .int 0, .int 0, .int 0, .int 0, .int 0, .int 0, .int 0, .null])), (q_1, .inl (g_2, 220, .inr (.inl f_195)))] := hD
  refine lv_dup hx hb d_M_init_1140 rfl ?_
  refine lv_sipush (v := 193) hx hb d_M_init_1141 (by decide) ?_
  refine lv_lconst (v := 0) hx hb d_M_init_1144 (by decide) ?_
  refine va_lastG hx hb hK hP hD hS 1 0 rfl rfl (by unfold vp_in; decide) d_M_init_1145 (fun f_196 H locs hP hD hS => ?_)
  have hP : va_P (dC, dI) cls [(o, .inr (4, [.null, .null, .null, .int 0, .int 0, .int 0, .int 0, .int 0, .null, .null, .int 0, .int 0, .int 0, .int 0, .int 0, .int 0, .int 0, .int 0, .null])), (q_1, .inl (g_2, 220, .inr (.inl f_196)))] H := hP
  have hD : va_D A [(o, .inr (4, [.null, .null, .null, .int 0, .int 0, .int 0, .int 0, .int 0, .null, .null, .int 0, .int 0, .int 0, .int 0, .int 0, .int 0, .int 0, .int 0, .null])), (q_1, .inl (g_2, 220, .inr (.inl f_196)))] := hD
  refine lv_dup hx hb d_M_init_1146 rfl ?_
  refine lv_sipush (v := 194) hx hb d_M_init_1147 (by decide) ?_
  refine lv_lconst (v := 0) hx hb d_M_init_1150 (by decide) ?_
  refine va_lastG hx hb hK hP hD hS 1 0 rfl rfl (by unfold vp_in; decide) d_M_init_1151 (fun f_197 H locs hP hD hS => ?_)
  have hP : va_P (dC, dI) cls [(o, .inr (4, [.null, .null, .null, .int 0, .int 0, .int 0, .int 0, .int 0, .null, .null, .int 0, .int 0, .int 0, .int 0, .int 0, .int 0, .int 0, .int 0, .null])), (q_1, .inl (g_2, 220, .inr (.inl f_197)))] H := hP
  have hD : va_D A [(o, .inr (4, [.null, .null, .null, .int 0, .int 0, .int 0, .int 0, .int 0, .null, .null, .int 0, .int 0, .int 0, .int 0, .int 0, .int 0, .int 0, .int 0, .null])), (q_1, .inl (g_2, 220, .inr (.inl f_197)))] := hD
  refine lv_dup hx hb d_M_init_1152 rfl ?_
  refine lv_sipush (v := 195) hx hb d_M_init_1153 (by decide) ?_
  refine lv_lconst (v := 0) hx hb d_M_init_1156 (by decide) ?_
  refine va_lastG hx hb hK hP hD hS 1 0 rfl rfl (by unfold vp_in; decide) d_M_init_1157 (fun f_198 H locs hP hD hS => ?_)
  have hP : va_P (dC, dI) cls [(o, .inr (4, [.null, .null, .null, .int 0, .int 0, .int 0, .int 0, .int 0, .null, .null, .int 0, .int 0, .int 0, .int 0, .int 0, .int 0, .int 0, .int 0, .null])), (q_1, .inl (g_2, 220, .inr (.inl f_198)))] H := hP
  have hD : va_D A [(o, .inr (4, [.null, .null, .null, .int 0, .int 0, .int 0, .int 0, .int 0, .null, .null, .int 0, .int 0, .int 0, .int 0, .int 0, .int 0, .int 0, .int 0, .null])), (q_1, .inl (g_2, 220, .inr (.inl f_198)))] := hD
  refine lv_dup hx hb d_M_init_1158 rfl ?_
  refine lv_sipush (v := 196) hx hb d_M_init_1159 (by decide) ?_
  refine lv_ldc2 (v := 7582761545825347885) hx hb hown (ht _ k_616) d_M_init_1162 ?_
  refine va_lastG hx hb hK hP hD hS 1 0 rfl rfl (by unfold vp_in; decide) d_M_init_1165 (fun f_199 H locs hP hD hS => ?_)
  have hP : va_P (dC, dI) cls [(o, .inr (4, [.null, .null, .null, .int 0, .int 0, .int 0, .int 0, .int 0, .null, .null, .int 0, .int 0, .int 0, .int 0, .int 0, .int 0, .int 0, .int 0, .null])), (q_1, .inl (g_2, 220, .inr (.inl f_199)))] H := hP
  have hD : va_D A [(o, .inr (4, [.null, .null, .null, .int 0, .int 0, .int 0, .int 0, .int 0, .null, .null, .int 0, .int 0, .int 0, .int 0, .int 0, .int 0, .int 0, .int 0, .null])), (q_1, .inl (g_2, 220, .inr (.inl f_199)))] := hD
  refine lv_dup hx hb d_M_init_1166 rfl ?_
  refine lv_sipush (v := 197) hx hb d_M_init_1167 (by decide) ?_
  refine lv_ldc2 (v := 7161131761959792640) hx hb hown (ht _ k_617) d_M_init_1170 ?_
  refine va_lastG hx hb hK hP hD hS 1 0 rfl rfl (by unfold vp_in; decide) d_M_init_1173 (fun f_200 H locs hP hD hS => ?_)
  have hP : va_P (dC, dI) cls [(o, .inr (4, [.null, .null, .null, .int 0, .int 0, .int 0, .int 0, .int 0, .null, .null, .int 0, .int 0, .int 0, .int 0, .int 0, .int 0, .int 0, .int 0, .null])), (q_1, .inl (g_2, 220, .inr (.inl f_200)))] H := hP
  have hD : va_D A [(o, .inr (4, [.null, .null, .null, .int 0, .int 0, .int 0, .int 0, .int 0, .null, .null, .int 0, .int 0, .int 0, .int 0, .int 0, .int 0, .int 0, .int 0, .null])), (q_1, .inl (g_2, 220, .inr (.inl f_200)))] := hD
  refine lv_dup hx hb d_M_init_1174 rfl ?_
  refine lv_sipush (v := 198) hx hb d_M_init_1175 (by decide) ?_
  refine lv_lconst (v := 0) hx hb d_M_init_1178 (by decide) ?_
  refine va_lastG hx hb hK hP hD hS 1 0 rfl rfl (by unfold vp_in; decide) d_M_init_1179 (fun f_201 H locs hP hD hS => ?_)
  have hP : va_P (dC, dI) cls [(o, .inr (4, [.null, .null, .null, .int 0, .int 0, .int 0, .int 0, .int 0, .null, .null, .int 0, .int 0, .int 0, .int 0, .int 0, .int 0, .int 0, .int 0, .null])), (q_1, .inl (g_2, 220, .inr (.inl f_201)))] H := hP
  have hD : va_D A [(o, .inr (4, [.null, .null, .null, .int 0, .int 0, .int 0, .int 0, .int 0, .null, .null, .int 0, .int 0, .int 0, .int 0, .int 0, .int 0, .int 0, .int 0, .null])), (q_1, .inl (g_2, 220, .inr (.inl f_201)))] := hD
  refine lv_dup hx hb d_M_init_1180 rfl ?_
  refine lv_sipush (v := 199) hx hb d_M_init_1181 (by decide) ?_
  refine lv_lconst (v := 0) hx hb d_M_init_1184 (by decide) ?_
  refine va_lastG hx hb hK hP hD hS 1 0 rfl rfl (by unfold vp_in; decide) d_M_init_1185 (fun f_202 H locs hP hD hS => ?_)
  have hP : va_P (dC, dI) cls [(o, .inr (4, [.null, .null, .null, .int 0, .int 0, .int 0, .int 0, .int 0, .null, .null, .int 0, .int 0, .int 0, .int 0, .int 0, .int 0, .int 0, .int 0, .null])), (q_1, .inl (g_2, 220, .inr (.inl f_202)))] H := hP
  have hD : va_D A [(o, .inr (4, [.null, .null, .null, .int 0, .int 0, .int 0, .int 0, .int 0, .null, .null, .int 0, .int 0, .int 0, .int 0, .int 0, .int 0, .int 0, .int 0, .null])), (q_1, .inl (g_2, 220, .inr (.inl f_202)))] := hD
  refine lv_dup hx hb d_M_init_1186 rfl ?_
  refine lv_sipush (v := 200) hx hb d_M_init_1187 (by decide) ?_
  refine lv_ldc2 (v := 7582761545825347885) hx hb hown (ht _ k_616) d_M_init_1190 ?_
  refine va_lastG hx hb hK hP hD hS 1 0 rfl rfl (by unfold vp_in; decide) d_M_init_1193 (fun f_203 H locs hP hD hS => ?_)
  have hP : va_P (dC, dI) cls [(o, .inr (4, [.null, .null, .null, .int 0, .int 0, .int 0, .int 0, .int 0, .null, .null, .int 0, .int 0, .int 0, .int 0, .int 0, .int 0, .int 0, .int 0, .null])), (q_1, .inl (g_2, 220, .inr (.inl f_203)))] H := hP
  have hD : va_D A [(o, .inr (4, [.null, .null, .null, .int 0, .int 0, .int 0, .int 0, .int 0, .null, .null, .int 0, .int 0, .int 0, .int 0, .int 0, .int 0, .int 0, .int 0, .null])), (q_1, .inl (g_2, 220, .inr (.inl f_203)))] := hD
  refine lv_dup hx hb d_M_init_1194 rfl ?_
  refine lv_sipush (v := 201) hx hb d_M_init_1195 (by decide) ?_
  refine lv_ldc2 (v := 7959388198925853440) hx hb hown (ht _ k_618) d_M_init_1198 ?_
  refine va_lastG hx hb hK hP hD hS 1 0 rfl rfl (by unfold vp_in; decide) d_M_init_1201 (fun f_204 H locs hP hD hS => ?_)
  have hP : va_P (dC, dI) cls [(o, .inr (4, [.null, .null, .null, .int 0, .int 0, .int 0, .int 0, .int 0, .null, .null, .int 0, .int 0, .int 0, .int 0, .int 0, .int 0, .int 0, .int 0, .null])), (q_1, .inl (g_2, 220, .inr (.inl f_204)))] H := hP
  have hD : va_D A [(o, .inr (4, [.null, .null, .null, .int 0, .int 0, .int 0, .int 0, .int 0, .null, .null, .int 0, .int 0, .int 0, .int 0, .int 0, .int 0, .int 0, .int 0, .null])), (q_1, .inl (g_2, 220, .inr (.inl f_204)))] := hD
  refine lv_dup hx hb d_M_init_1202 rfl ?_
  refine lv_sipush (v := 202) hx hb d_M_init_1203 (by decide) ?_
  refine lv_lconst (v := 0) hx hb d_M_init_1206 (by decide) ?_
  refine va_lastG hx hb hK hP hD hS 1 0 rfl rfl (by unfold vp_in; decide) d_M_init_1207 (fun f_205 H locs hP hD hS => ?_)
  have hP : va_P (dC, dI) cls [(o, .inr (4, [.null, .null, .null, .int 0, .int 0, .int 0, .int 0, .int 0, .null, .null, .int 0, .int 0, .int 0, .int 0, .int 0, .int 0, .int 0, .int 0, .null])), (q_1, .inl (g_2, 220, .inr (.inl f_205)))] H := hP
  have hD : va_D A [(o, .inr (4, [.null, .null, .null, .int 0, .int 0, .int 0, .int 0, .int 0, .null, .null, .int 0, .int 0, .int 0, .int 0, .int 0, .int 0, .int 0, .int 0, .null])), (q_1, .inl (g_2, 220, .inr (.inl f_205)))] := hD
  refine lv_dup hx hb d_M_init_1208 rfl ?_
  refine lv_sipush (v := 203) hx hb d_M_init_1209 (by decide) ?_
  refine lv_lconst (v := 0) hx hb d_M_init_1212 (by decide) ?_
  refine va_lastG hx hb hK hP hD hS 1 0 rfl rfl (by unfold vp_in; decide) d_M_init_1213 (fun f_206 H locs hP hD hS => ?_)
  have hP : va_P (dC, dI) cls [(o, .inr (4, [.null, .null, .null, .int 0, .int 0, .int 0, .int 0, .int 0, .null, .null, .int 0, .int 0, .int 0, .int 0, .int 0, .int 0, .int 0, .int 0, .null])), (q_1, .inl (g_2, 220, .inr (.inl f_206)))] H := hP
  have hD : va_D A [(o, .inr (4, [.null, .null, .null, .int 0, .int 0, .int 0, .int 0, .int 0, .null, .null, .int 0, .int 0, .int 0, .int 0, .int 0, .int 0, .int 0, .int 0, .null])), (q_1, .inl (g_2, 220, .inr (.inl f_206)))] := hD
  refine lv_dup hx hb d_M_init_1214 rfl ?_
  refine lv_sipush (v := 204) hx hb d_M_init_1215 (by decide) ?_
  refine lv_ldc2 (v := 7596835280987253857) hx hb hown (ht _ k_619) d_M_init_1218 ?_
  refine va_lastG hx hb hK hP hD hS 1 0 rfl rfl (by unfold vp_in; decide) d_M_init_1221 (fun f_207 H locs hP hD hS => ?_)
  have hP : va_P (dC, dI) cls [(o, .inr (4, [.null, .null, .null, .int 0, .int 0, .int 0, .int 0, .int 0, .null, .null, .int 0, .int 0, .int 0, .int 0, .int 0, .int 0, .int 0, .int 0, .null])), (q_1, .inl (g_2, 220, .inr (.inl f_207)))] H := hP
  have hD : va_D A [(o, .inr (4, [.null, .null, .null, .int 0, .int 0, .int 0, .int 0, .int 0, .null, .null, .int 0, .int 0, .int 0, .int 0, .int 0, .int 0, .int 0, .int 0, .null])), (q_1, .inl (g_2, 220, .inr (.inl f_207)))] := hD
  refine lv_dup hx hb d_M_init_1222 rfl ?_
  refine lv_sipush (v := 205) hx hb d_M_init_1223 (by decide) ?_
  refine lv_ldc2 (v := 7454301808228302848) hx hb hown (ht _ k_620) d_M_init_1226 ?_
  refine va_lastG hx hb hK hP hD hS 1 0 rfl rfl (by unfold vp_in; decide) d_M_init_1229 (fun f_208 H locs hP hD hS => ?_)
  have hP : va_P (dC, dI) cls [(o, .inr (4, [.null, .null, .null, .int 0, .int 0, .int 0, .int 0, .int 0, .null, .null, .int 0, .int 0, .int 0, .int 0, .int 0, .int 0, .int 0, .int 0, .null])), (q_1, .inl (g_2, 220, .inr (.inl f_208)))] H := hP
  have hD : va_D A [(o, .inr (4, [.null, .null, .null, .int 0, .int 0, .int 0, .int 0, .int 0, .null, .null, .int 0, .int 0, .int 0, .int 0, .int 0, .int 0, .int 0, .int 0, .null])), (q_1, .inl (g_2, 220, .inr (.inl f_208)))] := hD
  refine lv_dup hx hb d_M_init_1230 rfl ?_
  refine lv_sipush (v := 206) hx hb d_M_init_1231 (by decide) ?_
  refine lv_lconst (v := 0) hx hb d_M_init_1234 (by decide) ?_
  refine va_lastG hx hb hK hP hD hS 1 0 rfl rfl (by unfold vp_in; decide) d_M_init_1235 (fun f_209 H locs hP hD hS => ?_)
  have hP : va_P (dC, dI) cls [(o, .inr (4, [.null, .null, .null, .int 0, .int 0, .int 0, .int 0, .int 0, .null, .null, .int 0, .int 0, .int 0, .int 0, .int 0, .int 0, .int 0, .int 0, .null])), (q_1, .inl (g_2, 220, .inr (.inl f_209)))] H := hP
  have hD : va_D A [(o, .inr (4, [.null, .null, .null, .int 0, .int 0, .int 0, .int 0, .int 0, .null, .null, .int 0, .int 0, .int 0, .int 0, .int 0, .int 0, .int 0, .int 0, .null])), (q_1, .inl (g_2, 220, .inr (.inl f_209)))] := hD
  refine lv_dup hx hb d_M_init_1236 rfl ?_
  refine lv_sipush (v := 207) hx hb d_M_init_1237 (by decide) ?_
  refine lv_lconst (v := 0) hx hb d_M_init_1240 (by decide) ?_
  refine va_lastG hx hb hK hP hD hS 1 0 rfl rfl (by unfold vp_in; decide) d_M_init_1241 (fun f_210 H locs hP hD hS => ?_)
  have hP : va_P (dC, dI) cls [(o, .inr (4, [.null, .null, .null, .int 0, .int 0, .int 0, .int 0, .int 0, .null, .null, .int 0, .int 0, .int 0, .int 0, .int 0, .int 0, .int 0, .int 0, .null])), (q_1, .inl (g_2, 220, .inr (.inl f_210)))] H := hP
  have hD : va_D A [(o, .inr (4, [.null, .null, .null, .int 0, .int 0, .int 0, .int 0, .int 0, .null, .null, .int 0, .int 0, .int 0, .int 0, .int 0, .int 0, .int 0, .int 0, .null])), (q_1, .inl (g_2, 220, .inr (.inl f_210)))] := hD
  refine lv_dup hx hb d_M_init_1242 rfl ?_
  refine lv_sipush (v := 208) hx hb d_M_init_1243 (by decide) ?_
  refine lv_ldc2 (v := 8243113858792255342) hx hb hown (ht _ k_621) d_M_init_1246 ?_
  refine va_lastG hx hb hK hP hD hS 1 0 rfl rfl (by unfold vp_in; decide) d_M_init_1249 (fun f_211 H locs hP hD hS => ?_)
  have hP : va_P (dC, dI) cls [(o, .inr (4, [.null, .null, .null, .int 0, .int 0, .int 0, .int 0, .int 0, .null, .null, .int 0, .int 0, .int 0, .int 0, .int 0, .int 0, .int 0, .int 0, .null])), (q_1, .inl (g_2, 220, .inr (.inl f_211)))] H := hP
  have hD : va_D A [(o, .inr (4, [.null, .null, .null, .int 0, .int 0, .int 0, .int 0, .int 0, .null, .null, .int 0, .int 0, .int 0, .int 0, .int 0, .int 0, .int 0, .int 0, .null])), (q_1, .inl (g_2, 220, .inr (.inl f_211)))] := hD
  refine lv_dup hx hb d_M_init_1250 rfl ?_
  refine lv_sipush (v := 209) hx hb d_M_init_1251 (by decide) ?_
  refine lv_ldc2 (v := 7019985919163760640) hx hb hown (ht _ k_622) d_M_init_1254 ?_
  refine va_lastG hx hb hK hP hD hS 1 0 rfl rfl (by unfold vp_in; decide) d_M_init_1257 (fun f_212 H locs hP hD hS => ?_)
  have hP : va_P (dC, dI) cls [(o, .inr (4, [.null, .null, .null, .int 0, .int 0, .int 0, .int 0, .int 0, .null, .null, .int 0, .int 0, .int 0, .int 0, .int 0, .int 0, .int 0, .int 0, .null])), (q_1, .inl (g_2, 220, .inr (.inl f_212)))] H := hP
  have hD : va_D A [(o, .inr (4, [.null, .null, .null, .int 0, .int 0, .int 0, .int 0, .int 0, .null, .null, .int 0, .int 0, .int 0, .int 0, .int 0, .int 0, .int 0, .int 0, .null])), (q_1, .inl (g_2, 220, .inr (.inl f_212)))] := hD
  refine lv_dup hx hb d_M_init_1258 rfl ?_
  refine lv_sipush (v := 210) hx hb d_M_init_1259 (by decide) ?_
  refine lv_lconst (v := 0) hx hb d_M_init_1262 (by decide) ?_
  refine va_lastG hx hb hK hP hD hS 1 0 rfl rfl (by unfold vp_in; decide) d_M_init_1263 (fun f_213 H locs hP hD hS => ?_)
  have hP : va_P (dC, dI) cls [(o, .inr (4, [.null, .null, .null, .int 0, .int 0, .int 0, .int 0, .int 0, .null, .null, .int 0, .int 0, .int 0, .int 0, .int 0, .int 0, .int 0, .int 0, .null])), (q_1, .inl (g_2, 220, .inr (.inl f_213)))] H := hP
  have hD : va_D A [(o, .inr (4, [.null, .null, .null, .int 0, .int 0, .int 0, .int 0, .int 0, .null, .null, .int 0, .int 0, .int 0, .int 0, .int 0, .int 0, .int 0, .int 0, .null])), (q_1, .inl (g_2, 220, .inr (.inl f_213)))] := hD
  refine lv_dup hx hb d_M_init_1264 rfl ?_
  refine lv_sipush (v := 211) hx hb d_M_init_1265 (by decide) ?_
  refine lv_lconst (v := 0) hx hb d_M_init_1268 (by decide) ?_
  refine va_lastG hx hb hK hP hD hS 1 0 rfl rfl (by unfold vp_in; decide) d_M_init_1269 (fun f_214 H locs hP hD hS => ?_)
  have hP : va_P (dC, dI) cls [(o, .inr (4, [.null, .null, .null, .int 0, .int 0, .int 0, .int 0, .int 0, .null, .null, .int 0, .int 0, .int 0, .int 0, .int 0, .int 0, .int 0, .int 0, .null])), (q_1, .inl (g_2, 220, .inr (.inl f_214)))] H := hP
  have hD : va_D A [(o, .inr (4, [.null, .null, .null, .int 0, .int 0, .int 0, .int 0, .int 0, .null, .null, .int 0, .int 0, .int 0, .int 0, .int 0, .int 0, .int 0, .int 0, .null])), (q_1, .inl (g_2, 220, .inr (.inl f_214)))] := hD
  refine lv_dup hx hb d_M_init_1270 rfl ?_
  refine lv_sipush (v := 212) hx hb d_M_init_1271 (by decide) ?_
  refine lv_ldc2 (v := 7165065861608399220) hx hb hown (ht _ k_603) d_M_init_1274 ?_
  refine va_lastG hx hb hK hP hD hS 1 0 rfl rfl (by unfold vp_in; decide) d_M_init_1277 (fun f_215 H locs hP hD hS => ?_)
  have hP : va_P (dC, dI) cls [(o, .inr (4, [.null, .null, .null, .int 0, .int 0, .int 0, .int 0, .int 0, .null, .null, .int 0, .int 0, .int 0, .int 0, .int 0, .int 0, .int 0, .int 0, .null])), (q_1, .inl (g_2, 220, .inr (.inl f_215)))] H := hP
  have hD : va_D A [(o, .inr (4, [.null, .null, .null, .int 0, .int 0, .int 0, .int 0, .int 0, .null, .null, .int 0, .int 0, .int 0, .int 0, .int 0, .int 0, .int 0, .int 0, .null])), (q_1, .inl (g_2, 220, .inr (.inl f_215)))] := hD
  refine lv_dup hx hb d_M_init_1278 rfl ?_
  refine lv_sipush (v := 213) hx hb d_M_init_1279 (by decide) ?_
  refine lv_ldc2 (v := 8030531015546073955) hx hb hown (ht _ k_623) d_M_init_1282 ?_
  refine va_lastG hx hb hK hP hD hS 1 0 rfl rfl (by unfold vp_in; decide) d_M_init_1285 (fun f_216 H locs hP hD hS => ?_)
  have hP : va_P (dC, dI) cls [(o, .inr (4, [.null, .null, .null, .int 0, .int 0, .int 0, .int 0, .int 0, .null, .null, .int 0, .int 0, .int 0, .int 0, .int 0, .int 0, .int 0, .int 0, .null])), (q_1, .inl (g_2, 220, .inr (.inl f_216)))] H := hP
  have hD : va_D A [(o, .inr (4, [.null, .null, .null, .int 0, .int 0, .int 0, .int 0, .int 0, .null, .null, .int 0, .int 0, .int 0, .int 0, .int 0, .int 0, .int 0, .int 0, .null])), (q_1, .inl (g_2, 220, .inr (.inl f_216)))] := hD
  refine lv_dup hx hb d_M_init_1286 rfl ?_
  refine lv_sipush (v := 214) hx hb d_M_init_1287 (by decide) ?_
  refine lv_ldc2 (v := 7595652198976808306) hx hb hown (ht _ k_624) d_M_init_1290 ?_
  refine va_lastG hx hb hK hP hD hS 1 0 rfl rfl (by unfold vp_in; decide) d_M_init_1293 (fun f_217 H locs hP hD hS => ?_)
  have hP : va_P (dC, dI) cls [(o, .inr (4, [.null, .null, .null, .int 0, .int 0, .int 0, .int 0, .int 0, .null, .null, .int 0, .int 0, .int 0, .int 0, .int 0, .int 0, .int 0, .int 0, .null])), (q_1, .inl (g_2, 220, .inr (.inl f_217)))] H := hP
  have hD : va_D A [(o, .inr (4, [.null, .null, .null, .int 0, .int 0, .int 0, .int 0, .int 0, .null, .null, .int 0, .int 0, .int 0, .int 0, .int 0, .int 0, .int 0, .int 0, .null])), (q_1, .inl (g_2, 220, .inr (.inl f_217)))] := hD
  refine lv_dup hx hb d_M_init_1294 rfl ?_
  refine lv_sipush (v := 215) hx hb d_M_init_1295 (by decide) ?_
  refine lv_ldc2 (v := 7593913396676788224) hx hb hown (ht _ k_625) d_M_init_1298 ?_
  refine va_lastG hx hb hK hP hD hS 1 0 rfl rfl (by unfold vp_in; decide) d_M_init_1301 (fun f_218 H locs hP hD hS => ?_)
  have hP : va_P (dC, dI) cls [(o, .inr (4, [.null, .null, .null, .int 0, .int 0, .int 0, .int 0, .int 0, .null, .null, .int 0, .int 0, .int 0, .int 0, .int 0, .int 0, .int 0, .int 0, .null])), (q_1, .inl (g_2, 220, .inr (.inl f_218)))] H := hP
  have hD : va_D A [(o, .inr (4, [.null, .null, .null, .int 0, .int 0, .int 0, .int 0, .int 0, .null, .null, .int 0, .int 0, .int 0, .int 0, .int 0, .int 0, .int 0, .int 0, .null])), (q_1, .inl (g_2, 220, .inr (.inl f_218)))] := hD
  refine lv_dup hx hb d_M_init_1302 rfl ?_
  refine lv_sipush (v := 216) hx hb d_M_init_1303 (by decide) ?_
  refine lv_ldc2 (v := 8387242320658956288) hx hb hown (ht _ k_626) d_M_init_1306 ?_
  refine va_lastG hx hb hK hP hD hS 1 0 rfl rfl (by unfold vp_in; decide) d_M_init_1309 (fun f_219 H locs hP hD hS => ?_)
  have hP : va_P (dC, dI) cls [(o, .inr (4, [.null, .null, .null, .int 0, .int 0, .int 0, .int 0, .int 0, .null, .null, .int 0, .int 0, .int 0, .int 0, .int 0, .int 0, .int 0, .int 0, .null])), (q_1, .inl (g_2, 220, .inr (.inl f_219)))] H := hP
  have hD : va_D A [(o, .inr (4, [.null, .null, .null, .int 0, .int 0, .int 0, .int 0, .int 0, .null, .null, .int 0, .int 0, .int 0, .int 0, .int 0, .int 0, .int 0, .int 0, .null])), (q_1, .inl (g_2, 220, .inr (.inl f_219)))] := hD
  refine lv_dup hx hb d_M_init_1310 rfl ?_
  refine lv_sipush (v := 217) hx hb d_M_init_1311 (by decide) ?_
  refine lv_lconst (v := 0) hx hb d_M_init_1314 (by decide) ?_
  refine va_lastG hx hb hK hP hD hS 1 0 rfl rfl (by unfold vp_in; decide) d_M_init_1315 (fun f_220 H locs hP hD hS => ?_)
  have hP : va_P (dC, dI) cls [(o, .inr (4, [.null, .null, .null, .int 0, .int 0, .int 0, .int 0, .int 0, .null, .null, .int 0, .int 0, .int 0, .int 0, .int 0, .int 0, .int 0, .int 0, .null])), (q_1, .inl (g_2, 220, .inr (.inl f_220)))] H := hP
  have hD : va_D A [(o, .inr (4, [.null, .null, .null, .int 0, .int 0, .int 0, .int 0, .int 0, .null, .null, .int 0, .int 0, .int 0, .int 0, .int 0, .int 0, .int 0, .int 0, .null])), (q_1, .inl (g_2, 220, .inr (.inl f_220)))] := hD
  refine lv_dup hx hb d_M_init_1316 rfl ?_
  refine lv_sipush (v := 218) hx hb d_M_init_1317 (by decide) ?_
  refine lv_lconst (v := 0) hx hb d_M_init_1320 (by decide) ?_
  refine va_lastG hx hb hK hP hD hS 1 0 rfl rfl (by unfold vp_in; decide) d_M_init_1321 (fun f_221 H locs hP hD hS => ?_)
  have hP : va_P (dC, dI) cls [(o, .inr (4, [.null, .null, .null, .int 0, .int 0, .int 0, .int 0, .int 0, .null, .null, .int 0, .int 0, .int 0, .int 0, .int 0, .int 0, .int 0, .int 0, .null])), (q_1, .inl (g_2, 220, .inr (.inl f_221)))] H := hP
  have hD : va_D A [(o, .inr (4, [.null, .null, .null, .int 0, .int 0, .int 0, .int 0, .int 0, .null, .null, .int 0, .int 0, .int 0, .int 0, .int 0, .int 0, .int 0, .int 0, .null])), (q_1, .inl (g_2, 220, .inr (.inl f_221)))] := hD
  refine lv_dup hx hb d_M_init_1322 rfl ?_
  refine lv_sipush (v := 219) hx hb d_M_init_1323 (by decide) ?_
  refine lv_lconst (v := 0) hx hb d_M_init_1326 (by decide) ?_
  refine va_lastG hx hb hK hP hD hS 1 0 rfl rfl (by unfold vp_in; decide) d_M_init_1327 (fun f_222 H locs hP hD hS => ?_)
  have hP : va_P (dC, dI) cls [(o, .inr (4, [.null, .null, .null, .int 0, .int 0, .int 0, .int 0, .int 0, .null, .null, .int 0, .int 0, .int 0, .int 0, .int 0, .int 0, .int 0, .int 0, .null])), (q_1, .inl (g_2, 220, .inr (.inl f_222)))] H := hP
  have hD : va_D A [(o, .inr (4, [.null, .null, .null, .int 0, .int 0, .int 0, .int 0, .int 0, .null, .null, .int 0, .int 0, .int 0, .int 0, .int 0, .int 0, .int 0, .int 0, .null])), (q_1, .inl (g_2, 220, .inr (.inl f_222)))] := hD
  refine va_putF (D := (dC, dI)) (ci := 4) (v := .ref q_1) (ty := .array .long) (C := "SieveDeskModel") (T := F_M) (N := 19) hx hb ht i_M ty_M ty_M_ok n_M hown hK hP hD hS 0 rfl rfl 0 (by decide) (ht _ k_627) (fun _ h9 => h9) rfl hin rfl (ty_M_ok 0 (by decide)) rfl rfl (Nat.le_of_ble_eq_true rfl) d_M_init_1328 (fun H locs hP hD hS => ?_)
  have hP : va_P (dC, dI) cls [(o, .inr (4, [.ref q_1, .null, .null, .int 0, .int 0, .int 0, .int 0, .int 0, .null, .null, .int 0, .int 0, .int 0, .int 0, .int 0, .int 0, .int 0, .int 0, .null])), (q_1, .inl (g_2, 220, .inr (.inl f_222)))] H := hP
  have hD : va_D A [(o, .inr (4, [.ref q_1, .null, .null, .int 0, .int 0, .int 0, .int 0, .int 0, .null, .null, .int 0, .int 0, .int 0, .int 0, .int 0, .int 0, .int 0, .int 0, .null])), (q_1, .inl (g_2, 220, .inr (.inl f_222)))] := hD
  refine lv_aload_n hx hb d_M_init_1331 rfl (lv_at hl 0 rfl) ?_
  refine lv_bipush (v := 55) hx hb d_M_init_1332 (by decide) ?_
  refine va_newa (atype := .int) (ty := .int) (N' := 55) (a0 := (55, .inl (fun _ => 0))) hx hb (ht _ k_118) rfl hK hP hD hS hA (fun _ => rfl) (by decide) (by decide) (by decide) (Nat.le_of_ble_eq_true rfl) (Nat.le_of_ble_eq_true rfl) d_M_init_1334 (fun q_223 g_224 H hK hP hD hS => ?_)
  have hP : va_P (dC, dI) cls [(o, .inr (4, [.ref q_1, .null, .null, .int 0, .int 0, .int 0, .int 0, .int 0, .null, .null, .int 0, .int 0, .int 0, .int 0, .int 0, .int 0, .int 0, .int 0, .null])), (q_1, .inl (g_2, 220, .inr (.inl f_222))), (q_223, .inl (g_224, 55, .inl (fun _ => 0)))] H := hP
  have hD : va_D A [(o, .inr (4, [.ref q_1, .null, .null, .int 0, .int 0, .int 0, .int 0, .int 0, .null, .null, .int 0, .int 0, .int 0, .int 0, .int 0, .int 0, .int 0, .int 0, .null])), (q_1, .inl (g_2, 220, .inr (.inl f_222))), (q_223, .inl (g_224, 55, .inl (fun _ => 0)))] := hD
  have hK : va_K (dC, dI) cls [(g_2, .long), (g_224, .int)] s := hK
  refine W.widen (k := 2) (n := 275) (by decide) (by decide) ?_
  refine lv_dup hx hb d_M_init_1336 rfl ?_
  refine lv_iconst (v := 0) hx hb d_M_init_1337 (by decide) ?_
  refine lv_bipush (v := 7) hx hb d_M_init_1338 (by decide) ?_
  refine va_iastG hx hb hK hP hD hS 2 1 rfl rfl (by unfold vp_in; decide) d_M_init_1340 (fun f_225 H locs hP hD hS => ?_)
  have hP : va_P (dC, dI) cls [(o, .inr (4, [.ref q_1, .null, .null, .int 0, .int 0, .int 0, .int 0, .int 0, .null, .null, .int 0, .int 0, .int 0, .int 0, .int 0, .int 0, .int 0, .int 0, .null])), (q_1, .inl (g_2, 220, .inr (.inl f_222))), (q_223, .inl (g_224, 55, .inl f_225))] H := hP
  have hD : va_D A [(o, .inr (4, [.ref q_1, .null, .null, .int 0, .int 0, .int 0, .int 0, .int 0, .null, .null, .int 0, .int 0, .int 0, .int 0, .int 0, .int 0, .int 0, .int 0, .null])), (q_1, .inl (g_2, 220, .inr (.inl f_222))), (q_223, .inl (g_224, 55, .inl f_225))] := hD
  refine lv_dup hx hb d_M_init_1341 rfl ?_
  refine lv_iconst (v := 1) hx hb d_M_init_1342 (by decide) ?_
  refine lv_iconst (v := 2) hx hb d_M_init_1343 (by decide) ?_
  refine va_iastG hx hb hK hP hD hS 2 1 rfl rfl (by unfold vp_in; decide) d_M_init_1344 (fun f_226 H locs hP hD hS => ?_)
  have hP : va_P (dC, dI) cls [(o, .inr (4, [.ref q_1, .null, .null, .int 0, .int 0, .int 0, .int 0, .int 0, .null, .null, .int 0, .int 0, .int 0, .int 0, .int 0, .int 0, .int 0, .int 0, .null])), (q_1, .inl (g_2, 220, .inr (.inl f_222))), (q_223, .inl (g_224, 55, .inl f_226))] H := hP
  have hD : va_D A [(o, .inr (4, [.ref q_1, .null, .null, .int 0, .int 0, .int 0, .int 0, .int 0, .null, .null, .int 0, .int 0, .int 0, .int 0, .int 0, .int 0, .int 0, .int 0, .null])), (q_1, .inl (g_2, 220, .inr (.inl f_222))), (q_223, .inl (g_224, 55, .inl f_226))] := hD
  refine lv_dup hx hb d_M_init_1345 rfl ?_
  refine lv_iconst (v := 2) hx hb d_M_init_1346 (by decide) ?_
  refine lv_iconst (v := 5) hx hb d_M_init_1347 (by decide) ?_
  refine va_iastG hx hb hK hP hD hS 2 1 rfl rfl (by unfold vp_in; decide) d_M_init_1348 (fun f_227 H locs hP hD hS => ?_)
  have hP : va_P (dC, dI) cls [(o, .inr (4, [.ref q_1, .null, .null, .int 0, .int 0, .int 0, .int 0, .int 0, .null, .null, .int 0, .int 0, .int 0, .int 0, .int 0, .int 0, .int 0, .int 0, .null])), (q_1, .inl (g_2, 220, .inr (.inl f_222))), (q_223, .inl (g_224, 55, .inl f_227))] H := hP
  have hD : va_D A [(o, .inr (4, [.ref q_1, .null, .null, .int 0, .int 0, .int 0, .int 0, .int 0, .null, .null, .int 0, .int 0, .int 0, .int 0, .int 0, .int 0, .int 0, .int 0, .null])), (q_1, .inl (g_2, 220, .inr (.inl f_222))), (q_223, .inl (g_224, 55, .inl f_227))] := hD
  refine lv_dup hx hb d_M_init_1349 rfl ?_
  refine lv_iconst (v := 3) hx hb d_M_init_1350 (by decide) ?_
  refine lv_iconst (v := 4) hx hb d_M_init_1351 (by decide) ?_
  refine va_iastG hx hb hK hP hD hS 2 1 rfl rfl (by unfold vp_in; decide) d_M_init_1352 (fun f_228 H locs hP hD hS => ?_)
  have hP : va_P (dC, dI) cls [(o, .inr (4, [.ref q_1, .null, .null, .int 0, .int 0, .int 0, .int 0, .int 0, .null, .null, .int 0, .int 0, .int 0, .int 0, .int 0, .int 0, .int 0, .int 0, .null])), (q_1, .inl (g_2, 220, .inr (.inl f_222))), (q_223, .inl (g_224, 55, .inl f_228))] H := hP
  have hD : va_D A [(o, .inr (4, [.ref q_1, .null, .null, .int 0, .int 0, .int 0, .int 0, .int 0, .null, .null, .int 0, .int 0, .int 0, .int 0, .int 0, .int 0, .int 0, .int 0, .null])), (q_1, .inl (g_2, 220, .inr (.inl f_222))), (q_223, .inl (g_224, 55, .inl f_228))] := hD
  refine lv_dup hx hb d_M_init_1353 rfl ?_
  refine lv_iconst (v := 4) hx hb d_M_init_1354 (by decide) ?_
  refine lv_iconst (v := 4) hx hb d_M_init_1355 (by decide) ?_
  refine va_iastG hx hb hK hP hD hS 2 1 rfl rfl (by unfold vp_in; decide) d_M_init_1356 (fun f_229 H locs hP hD hS => ?_)
  have hP : va_P (dC, dI) cls [(o, .inr (4, [.ref q_1, .null, .null, .int 0, .int 0, .int 0, .int 0, .int 0, .null, .null, .int 0, .int 0, .int 0, .int 0, .int 0, .int 0, .int 0, .int 0, .null])), (q_1, .inl (g_2, 220, .inr (.inl f_222))), (q_223, .inl (g_224, 55, .inl f_229))] H := hP
  have hD : va_D A [(o, .inr (4, [.ref q_1, .null, .null, .int 0, .int 0, .int 0, .int 0, .int 0, .null, .null, .int 0, .int 0, .int 0, .int 0, .int 0, .int 0, .int 0, .int 0, .null])), (q_1, .inl (g_2, 220, .inr (.inl f_222))), (q_223, .inl (g_224, 55, .inl f_229))] := hD
  refine lv_dup hx hb d_M_init_1357 rfl ?_
  refine lv_iconst (v := 5) hx hb d_M_init_1358 (by decide) ?_
  refine lv_bipush (v := 7) hx hb d_M_init_1359 (by decide) ?_
  refine va_iastG hx hb hK hP hD hS 2 1 rfl rfl (by unfold vp_in; decide) d_M_init_1361 (fun f_230 H locs hP hD hS => ?_)
  have hP : va_P (dC, dI) cls [(o, .inr (4, [.ref q_1, .null, .null, .int 0, .int 0, .int 0, .int 0, .int 0, .null, .null, .int 0, .int 0, .int 0, .int 0, .int 0, .int 0, .int 0, .int 0, .null])), (q_1, .inl (g_2, 220, .inr (.inl f_222))), (q_223, .inl (g_224, 55, .inl f_230))] H := hP
  have hD : va_D A [(o, .inr (4, [.ref q_1, .null, .null, .int 0, .int 0, .int 0, .int 0, .int 0, .null, .null, .int 0, .int 0, .int 0, .int 0, .int 0, .int 0, .int 0, .int 0, .null])), (q_1, .inl (g_2, 220, .inr (.inl f_222))), (q_223, .inl (g_224, 55, .inl f_230))] := hD
  refine lv_dup hx hb d_M_init_1362 rfl ?_
  refine lv_bipush (v := 6) hx hb d_M_init_1363 (by decide) ?_
  refine lv_iconst (v := 4) hx hb d_M_init_1365 (by decide) ?_
  refine va_iastG hx hb hK hP hD hS 2 1 rfl rfl (by unfold vp_in; decide) d_M_init_1366 (fun f_231 H locs hP hD hS => ?_)
  have hP : va_P (dC, dI) cls [(o, .inr (4, [.ref q_1, .null, .null, .int 0, .int 0, .int 0, .int 0, .int 0, .null, .null, .int 0, .int 0, .int 0, .int 0, .int 0, .int 0, .int 0, .int 0, .null])), (q_1, .inl (g_2, 220, .inr (.inl f_222))), (q_223, .inl (g_224, 55, .inl f_231))] H := hP
  have hD : va_D A [(o, .inr (4, [.ref q_1, .null, .null, .int 0, .int 0, .int 0, .int 0, .int 0, .null, .null, .int 0, .int 0, .int 0, .int 0, .int 0, .int 0, .int 0, .int 0, .null])), (q_1, .inl (g_2, 220, .inr (.inl f_222))), (q_223, .inl (g_224, 55, .inl f_231))] := hD
  refine lv_dup hx hb d_M_init_1367 rfl ?_
  refine lv_bipush (v := 7) hx hb d_M_init_1368 (by decide) ?_
  refine lv_bipush (v := 8) hx hb d_M_init_1370 (by decide) ?_
  refine va_iastG hx hb hK hP hD hS 2 1 rfl rfl (by unfold vp_in; decide) d_M_init_1372 (fun f_232 H locs hP hD hS => ?_)
  have hP : va_P (dC, dI) cls [(o, .inr (4, [.ref q_1, .null, .null, .int 0, .int 0, .int 0, .int 0, .int 0, .null, .null, .int 0, .int 0, .int 0, .int 0, .int 0, .int 0, .int 0, .int 0, .null])), (q_1, .inl (g_2, 220, .inr (.inl f_222))), (q_223, .inl (g_224, 55, .inl f_232))] H := hP
  have hD : va_D A [(o, .inr (4, [.ref q_1, .null, .null, .int 0, .int 0, .int 0, .int 0, .int 0, .null, .null, .int 0, .int 0, .int 0, .int 0, .int 0, .int 0, .int 0, .int 0, .null])), (q_1, .inl (g_2, 220, .inr (.inl f_222))), (q_223, .inl (g_224, 55, .inl f_232))] := hD
  refine lv_dup hx hb d_M_init_1373 rfl ?_
  refine lv_bipush (v := 8) hx hb d_M_init_1374 (by decide) ?_
  refine lv_bipush (v := 8) hx hb d_M_init_1376 (by decide) ?_
  refine va_iastG hx hb hK hP hD hS 2 1 rfl rfl (by unfold vp_in; decide) d_M_init_1378 (fun f_233 H locs hP hD hS => ?_)
  have hP : va_P (dC, dI) cls [(o, .inr (4, [.ref q_1, .null, .null, .int 0, .int 0, .int 0, .int 0, .int 0, .null, .null, .int 0, .int 0, .int 0, .int 0, .int 0, .int 0, .int 0, .int 0, .null])), (q_1, .inl (g_2, 220, .inr (.inl f_222))), (q_223, .inl (g_224, 55, .inl f_233))] H := hP
  have hD : va_D A [(o, .inr (4, [.ref q_1, .null, .null, .int 0, .int 0, .int 0, .int 0, .int 0, .null, .null, .int 0, .int 0, .int 0, .int 0, .int 0, .int 0, .int 0, .int 0, .null])), (q_1, .inl (g_2, 220, .inr (.inl f_222))), (q_223, .inl (g_224, 55, .inl f_233))] := hD
  refine lv_dup hx hb d_M_init_1379 rfl ?_
  refine lv_bipush (v := 9) hx hb d_M_init_1380 (by decide) ?_
  refine lv_bipush (v := 6) hx hb d_M_init_1382 (by decide) ?_
  refine va_iastG hx hb hK hP hD hS 2 1 rfl rfl (by unfold vp_in; decide) d_M_init_1384 (fun f_234 H locs hP hD hS => ?_)
  have hP : va_P (dC, dI) cls [(o, .inr (4, [.ref q_1, .null, .null, .int 0, .int 0, .int 0, .int 0, .int 0, .null, .null, .int 0, .int 0, .int 0, .int 0, .int 0, .int 0, .int 0, .int 0, .null])), (q_1, .inl (g_2, 220, .inr (.inl f_222))), (q_223, .inl (g_224, 55, .inl f_234))] H := hP
  have hD : va_D A [(o, .inr (4, [.ref q_1, .null, .null, .int 0, .int 0, .int 0, .int 0, .int 0, .null, .null, .int 0, .int 0, .int 0, .int 0, .int 0, .int 0, .int 0, .int 0, .null])), (q_1, .inl (g_2, 220, .inr (.inl f_222))), (q_223, .inl (g_224, 55, .inl f_234))] := hD
  refine lv_dup hx hb d_M_init_1385 rfl ?_
  refine lv_bipush (v := 10) hx hb d_M_init_1386 (by decide) ?_
  refine lv_bipush (v := 7) hx hb d_M_init_1388 (by decide) ?_
  refine va_iastG hx hb hK hP hD hS 2 1 rfl rfl (by unfold vp_in; decide) d_M_init_1390 (fun f_235 H locs hP hD hS => ?_)
  have hP : va_P (dC, dI) cls [(o, .inr (4, [.ref q_1, .null, .null, .int 0, .int 0, .int 0, .int 0, .int 0, .null, .null, .int 0, .int 0, .int 0, .int 0, .int 0, .int 0, .int 0, .int 0, .null])), (q_1, .inl (g_2, 220, .inr (.inl f_222))), (q_223, .inl (g_224, 55, .inl f_235))] H := hP
  have hD : va_D A [(o, .inr (4, [.ref q_1, .null, .null, .int 0, .int 0, .int 0, .int 0, .int 0, .null, .null, .int 0, .int 0, .int 0, .int 0, .int 0, .int 0, .int 0, .int 0, .null])), (q_1, .inl (g_2, 220, .inr (.inl f_222))), (q_223, .inl (g_224, 55, .inl f_235))] := hD
  refine lv_dup hx hb d_M_init_1391 rfl ?_
  refine lv_bipush (v := 11) hx hb d_M_init_1392 (by decide) ?_
  refine lv_bipush (v := 7) hx hb d_M_init_1394 (by decide) ?_
  refine va_iastG hx hb hK hP hD hS 2 1 rfl rfl (by unfold vp_in; decide) d_M_init_1396 (fun f_236 H locs hP hD hS => ?_)
  have hP : va_P (dC, dI) cls [(o, .inr (4, [.ref q_1, .null, .null, .int 0, .int 0, .int 0, .int 0, .int 0, .null, .null, .int 0, .int 0, .int 0, .int 0, .int 0, .int 0, .int 0, .int 0, .null])), (q_1, .inl (g_2, 220, .inr (.inl f_222))), (q_223, .inl (g_224, 55, .inl f_236))] H := hP
  have hD : va_D A [(o, .inr (4, [.ref q_1, .null, .null, .int 0, .int 0, .int 0, .int 0, .int 0, .null, .null, .int 0, .int 0, .int 0, .int 0, .int 0, .int 0, .int 0, .int 0, .null])), (q_1, .inl (g_2, 220, .inr (.inl f_222))), (q_223, .inl (g_224, 55, .inl f_236))] := hD
  refine lv_dup hx hb d_M_init_1397 rfl ?_
  refine lv_bipush (v := 12) hx hb d_M_init_1398 (by decide) ?_
  refine lv_bipush (v := 10) hx hb d_M_init_1400 (by decide) ?_
  refine va_iastG hx hb hK hP hD hS 2 1 rfl rfl (by unfold vp_in; decide) d_M_init_1402 (fun f_237 H locs hP hD hS => ?_)
  have hP : va_P (dC, dI) cls [(o, .inr (4, [.ref q_1, .null, .null, .int 0, .int 0, .int 0, .int 0, .int 0, .null, .null, .int 0, .int 0, .int 0, .int 0, .int 0, .int 0, .int 0, .int 0, .null])), (q_1, .inl (g_2, 220, .inr (.inl f_222))), (q_223, .inl (g_224, 55, .inl f_237))] H := hP
  have hD : va_D A [(o, .inr (4, [.ref q_1, .null, .null, .int 0, .int 0, .int 0, .int 0, .int 0, .null, .null, .int 0, .int 0, .int 0, .int 0, .int 0, .int 0, .int 0, .int 0, .null])), (q_1, .inl (g_2, 220, .inr (.inl f_222))), (q_223, .inl (g_224, 55, .inl f_237))] := hD
  refine lv_dup hx hb d_M_init_1403 rfl ?_
  refine lv_bipush (v := 13) hx hb d_M_init_1404 (by decide) ?_
  refine lv_bipush (v := 8) hx hb d_M_init_1406 (by decide) ?_
  refine va_iastG hx hb hK hP hD hS 2 1 rfl rfl (by unfold vp_in; decide) d_M_init_1408 (fun f_238 H locs hP hD hS => ?_)
  have hP : va_P (dC, dI) cls [(o, .inr (4, [.ref q_1, .null, .null, .int 0, .int 0, .int 0, .int 0, .int 0, .null, .null, .int 0, .int 0, .int 0, .int 0, .int 0, .int 0, .int 0, .int 0, .null])), (q_1, .inl (g_2, 220, .inr (.inl f_222))), (q_223, .inl (g_224, 55, .inl f_238))] H := hP
  have hD : va_D A [(o, .inr (4, [.ref q_1, .null, .null, .int 0, .int 0, .int 0, .int 0, .int 0, .null, .null, .int 0, .int 0, .int 0, .int 0, .int 0, .int 0, .int 0, .int 0, .null])), (q_1, .inl (g_2, 220, .inr (.inl f_222))), (q_223, .inl (g_224, 55, .inl f_238))] := hD
  refine lv_dup hx hb d_M_init_1409 rfl ?_
  refine lv_bipush (v := 14) hx hb d_M_init_1410 (by decide) ?_
  refine lv_bipush (v := 6) hx hb d_M_init_1412 (by decide) ?_
  refine va_iastG hx hb hK hP hD hS 2 1 rfl rfl (by unfold vp_in; decide) d_M_init_1414 (fun f_239 H locs hP hD hS => ?_)
  have hP : va_P (dC, dI) cls [(o, .inr (4, [.ref q_1, .null, .null, .int 0, .int 0, .int 0, .int 0, .int 0, .null, .null, .int 0, .int 0, .int 0, .int 0, .int 0, .int 0, .int 0, .int 0, .null])), (q_1, .inl (g_2, 220, .inr (.inl f_222))), (q_223, .inl (g_224, 55, .inl f_239))] H := hP
  have hD : va_D A [(o, .inr (4, [.ref q_1, .null, .null, .int 0, .int 0, .int 0, .int 0, .int 0, .null, .null, .int 0, .int 0, .int 0, .int 0, .int 0, .int 0, .int 0, .int 0, .null])), (q_1, .inl (g_2, 220, .inr (.inl f_222))), (q_223, .inl (g_224, 55, .inl f_239))] := hD
  refine lv_dup hx hb d_M_init_1415 rfl ?_
  refine lv_bipush (v := 15) hx hb d_M_init_1416 (by decide) ?_
  refine lv_bipush (v := 7) hx hb d_M_init_1418 (by decide) ?_
  refine va_iastG hx hb hK hP hD hS 2 1 rfl rfl (by unfold vp_in; decide) d_M_init_1420 (fun f_240 H locs hP hD hS => ?_)
  have hP : va_P (dC, dI) cls [(o, .inr (4, [.ref q_1, .null, .null, .int 0, .int 0, .int 0, .int 0, .int 0, .null, .null, .int 0, .int 0, .int 0, .int 0, .int 0, .int 0, .int 0, .int 0, .null])), (q_1, .inl (g_2, 220, .inr (.inl f_222))), (q_223, .inl (g_224, 55, .inl f_240))] H := hP
  have hD : va_D A [(o, .inr (4, [.ref q_1, .null, .null, .int 0, .int 0, .int 0, .int 0, .int 0, .null, .null, .int 0, .int 0, .int 0, .int 0, .int 0, .int 0, .int 0, .int 0, .null])), (q_1, .inl (g_2, 220, .inr (.inl f_222))), (q_223, .inl (g_224, 55, .inl f_240))] := hD
  refine lv_dup hx hb d_M_init_1421 rfl ?_
  refine lv_bipush (v := 16) hx hb d_M_init_1422 (by decide) ?_
  refine lv_bipush (v := 8) hx hb d_M_init_1424 (by decide) ?_
  refine va_iastG hx hb hK hP hD hS 2 1 rfl rfl (by unfold vp_in; decide) d_M_init_1426 (fun f_241 H locs hP hD hS => ?_)
  have hP : va_P (dC, dI) cls [(o, .inr (4, [.ref q_1, .null, .null, .int 0, .int 0, .int 0, .int 0, .int 0, .null, .null, .int 0, .int 0, .int 0, .int 0, .int 0, .int 0, .int 0, .int 0, .null])), (q_1, .inl (g_2, 220, .inr (.inl f_222))), (q_223, .inl (g_224, 55, .inl f_241))] H := hP
  have hD : va_D A [(o, .inr (4, [.ref q_1, .null, .null, .int 0, .int 0, .int 0, .int 0, .int 0, .null, .null, .int 0, .int 0, .int 0, .int 0, .int 0, .int 0, .int 0, .int 0, .null])), (q_1, .inl (g_2, 220, .inr (.inl f_222))), (q_223, .inl (g_224, 55, .inl f_241))] := hD
  refine lv_dup hx hb d_M_init_1427 rfl ?_
  refine lv_bipush (v := 17) hx hb d_M_init_1428 (by decide) ?_
  refine lv_bipush (v := 7) hx hb d_M_init_1430 (by decide) ?_
  refine va_iastG hx hb hK hP hD hS 2 1 rfl rfl (by unfold vp_in; decide) d_M_init_1432 (fun f_242 H locs hP hD hS => ?_)
  have hP : va_P (dC, dI) cls [(o, .inr (4, [.ref q_1, .null, .null, .int 0, .int 0, .int 0, .int 0, .int 0, .null, .null, .int 0, .int 0, .int 0, .int 0, .int 0, .int 0, .int 0, .int 0, .null])), (q_1, .inl (g_2, 220, .inr (.inl f_222))), (q_223, .inl (g_224, 55, .inl f_242))] H := hP
  have hD : va_D A [(o, .inr (4, [.ref q_1, .null, .null, .int 0, .int 0, .int 0, .int 0, .int 0, .null, .null, .int 0, .int 0, .int 0, .int 0, .int 0, .int 0, .int 0, .int 0, .null])), (q_1, .inl (g_2, 220, .inr (.inl f_222))), (q_223, .inl (g_224, 55, .inl f_242))] := hD
  refine lv_dup hx hb d_M_init_1433 rfl ?_
  refine lv_bipush (v := 18) hx hb d_M_init_1434 (by decide) ?_
  refine lv_bipush (v := 6) hx hb d_M_init_1436 (by decide) ?_
  refine va_iastG hx hb hK hP hD hS 2 1 rfl rfl (by unfold vp_in; decide) d_M_init_1438 (fun f_243 H locs hP hD hS => ?_)
  have hP : va_P (dC, dI) cls [(o, .inr (4, [.ref q_1, .null, .null, .int 0, .int 0, .int 0, .int 0, .int 0, .null, .null, .int 0, .int 0, .int 0, .int 0, .int 0, .int 0, .int 0, .int 0, .null])), (q_1, .inl (g_2, 220, .inr (.inl f_222))), (q_223, .inl (g_224, 55, .inl f_243))] H := hP
  have hD : va_D A [(o, .inr (4, [.ref q_1, .null, .null, .int 0, .int 0, .int 0, .int 0, .int 0, .null, .null, .int 0, .int 0, .int 0, .int 0, .int 0, .int 0, .int 0, .int 0, .null])), (q_1, .inl (g_2, 220, .inr (.inl f_222))), (q_223, .inl (g_224, 55, .inl f_243))] := hD
  refine lv_dup hx hb d_M_init_1439 rfl ?_
  refine lv_bipush (v := 19) hx hb d_M_init_1440 (by decide) ?_
  refine lv_iconst (v := 4) hx hb d_M_init_1442 (by decide) ?_
  refine va_iastG hx hb hK hP hD hS 2 1 rfl rfl (by unfold vp_in; decide) d_M_init_1443 (fun f_244 H locs hP hD hS => ?_)
  have hP : va_P (dC, dI) cls [(o, .inr (4, [.ref q_1, .null, .null, .int 0, .int 0, .int 0, .int 0, .int 0, .null, .null, .int 0, .int 0, .int 0, .int 0, .int 0, .int 0, .int 0, .int 0, .null])), (q_1, .inl (g_2, 220, .inr (.inl f_222))), (q_223, .inl (g_224, 55, .inl f_244))] H := hP
  have hD : va_D A [(o, .inr (4, [.ref q_1, .null, .null, .int 0, .int 0, .int 0, .int 0, .int 0, .null, .null, .int 0, .int 0, .int 0, .int 0, .int 0, .int 0, .int 0, .int 0, .null])), (q_1, .inl (g_2, 220, .inr (.inl f_222))), (q_223, .inl (g_224, 55, .inl f_244))] := hD
  refine lv_dup hx hb d_M_init_1444 rfl ?_
  refine lv_bipush (v := 20) hx hb d_M_init_1445 (by decide) ?_
  refine lv_iconst (v := 5) hx hb d_M_init_1447 (by decide) ?_
  refine va_iastG hx hb hK hP hD hS 2 1 rfl rfl (by unfold vp_in; decide) d_M_init_1448 (fun f_245 H locs hP hD hS => ?_)
  have hP : va_P (dC, dI) cls [(o, .inr (4, [.ref q_1, .null, .null, .int 0, .int 0, .int 0, .int 0, .int 0, .null, .null, .int 0, .int 0, .int 0, .int 0, .int 0, .int 0, .int 0, .int 0, .null])), (q_1, .inl (g_2, 220, .inr (.inl f_222))), (q_223, .inl (g_224, 55, .inl f_245))] H := hP
  have hD : va_D A [(o, .inr (4, [.ref q_1, .null, .null, .int 0, .int 0, .int 0, .int 0, .int 0, .null, .null, .int 0, .int 0, .int 0, .int 0, .int 0, .int 0, .int 0, .int 0, .null])), (q_1, .inl (g_2, 220, .inr (.inl f_222))), (q_223, .inl (g_224, 55, .inl f_245))] := hD
  refine lv_dup hx hb d_M_init_1449 rfl ?_
  refine lv_bipush (v := 21) hx hb d_M_init_1450 (by decide) ?_
  refine lv_iconst (v := 5) hx hb d_M_init_1452 (by decide) ?_
  refine va_iastG hx hb hK hP hD hS 2 1 rfl rfl (by unfold vp_in; decide) d_M_init_1453 (fun f_246 H locs hP hD hS => ?_)
  have hP : va_P (dC, dI) cls [(o, .inr (4, [.ref q_1, .null, .null, .int 0, .int 0, .int 0, .int 0, .int 0, .null, .null, .int 0, .int 0, .int 0, .int 0, .int 0, .int 0, .int 0, .int 0, .null])), (q_1, .inl (g_2, 220, .inr (.inl f_222))), (q_223, .inl (g_224, 55, .inl f_246))] H := hP
  have hD : va_D A [(o, .inr (4, [.ref q_1, .null, .null, .int 0, .int 0, .int 0, .int 0, .int 0, .null, .null, .int 0, .int 0, .int 0, .int 0, .int 0, .int 0, .int 0, .int 0, .null])), (q_1, .inl (g_2, 220, .inr (.inl f_222))), (q_223, .inl (g_224, 55, .inl f_246))] := hD
  refine lv_dup hx hb d_M_init_1454 rfl ?_
  refine lv_bipush (v := 22) hx hb d_M_init_1455 (by decide) ?_
  refine lv_iconst (v := 3) hx hb d_M_init_1457 (by decide) ?_
  refine va_iastG hx hb hK hP hD hS 2 1 rfl rfl (by unfold vp_in; decide) d_M_init_1458 (fun f_247 H locs hP hD hS => ?_)
  have hP : va_P (dC, dI) cls [(o, .inr (4, [.ref q_1, .null, .null, .int 0, .int 0, .int 0, .int 0, .int 0, .null, .null, .int 0, .int 0, .int 0, .int 0, .int 0, .int 0, .int 0, .int 0, .null])), (q_1, .inl (g_2, 220, .inr (.inl f_222))), (q_223, .inl (g_224, 55, .inl f_247))] H := hP
  have hD : va_D A [(o, .inr (4, [.ref q_1, .null, .null, .int 0, .int 0, .int 0, .int 0, .int 0, .null, .null, .int 0, .int 0, .int 0, .int 0, .int 0, .int 0, .int 0, .int 0, .null])), (q_1, .inl (g_2, 220, .inr (.inl f_222))), (q_223, .inl (g_224, 55, .inl f_247))] := hD
  refine lv_dup hx hb d_M_init_1459 rfl ?_
  refine lv_bipush (v := 23) hx hb d_M_init_1460 (by decide) ?_
  refine lv_iconst (v := 4) hx hb d_M_init_1462 (by decide) ?_
  refine va_iastG hx hb hK hP hD hS 2 1 rfl rfl (by unfold vp_in; decide) d_M_init_1463 (fun f_248 H locs hP hD hS => ?_)
  have hP : va_P (dC, dI) cls [(o, .inr (4, [.ref q_1, .null, .null, .int 0, .int 0, .int 0, .int 0, .int 0, .null, .null, .int 0, .int 0, .int 0, .int 0, .int 0, .int 0, .int 0, .int 0, .null])), (q_1, .inl (g_2, 220, .inr (.inl f_222))), (q_223, .inl (g_224, 55, .inl f_248))] H := hP
  have hD : va_D A [(o, .inr (4, [.ref q_1, .null, .null, .int 0, .int 0, .int 0, .int 0, .int 0, .null, .null, .int 0, .int 0, .int 0, .int 0, .int 0, .int 0, .int 0, .int 0, .null])), (q_1, .inl (g_2, 220, .inr (.inl f_222))), (q_223, .inl (g_224, 55, .inl f_248))] := hD
  refine lv_dup hx hb d_M_init_1464 rfl ?_
  refine lv_bipush (v := 24) hx hb d_M_init_1465 (by decide) ?_
  refine lv_iconst (v := 5) hx hb d_M_init_1467 (by decide) ?_
  refine va_iastG hx hb hK hP hD hS 2 1 rfl rfl (by unfold vp_in; decide) d_M_init_1468 (fun f_249 H locs hP hD hS => ?_)
  have hP : va_P (dC, dI) cls [(o, .inr (4, [.ref q_1, .null, .null, .int 0, .int 0, .int 0, .int 0, .int 0, .null, .null, .int 0, .int 0, .int 0, .int 0, .int 0, .int 0, .int 0, .int 0, .null])), (q_1, .inl (g_2, 220, .inr (.inl f_222))), (q_223, .inl (g_224, 55, .inl f_249))] H := hP
  have hD : va_D A [(o, .inr (4, [.ref q_1, .null, .null, .int 0, .int 0, .int 0, .int 0, .int 0, .null, .null, .int 0, .int 0, .int 0, .int 0, .int 0, .int 0, .int 0, .int 0, .null])), (q_1, .inl (g_2, 220, .inr (.inl f_222))), (q_223, .inl (g_224, 55, .inl f_249))] := hD
  refine lv_dup hx hb d_M_init_1469 rfl ?_
  refine lv_bipush (v := 25) hx hb d_M_init_1470 (by decide) ?_
  refine lv_iconst (v := 5) hx hb d_M_init_1472 (by decide) ?_
  refine va_iastG hx hb hK hP hD hS 2 1 rfl rfl (by unfold vp_in; decide) d_M_init_1473 (fun f_250 H locs hP hD hS => ?_)
  have hP : va_P (dC, dI) cls [(o, .inr (4, [.ref q_1, .null, .null, .int 0, .int 0, .int 0, .int 0, .int 0, .null, .null, .int 0, .int 0, .int 0, .int 0, .int 0, .int 0, .int 0, .int 0, .null])), (q_1, .inl (g_2, 220, .inr (.inl f_222))), (q_223, .inl (g_224, 55, .inl f_250))] H := hP
  have hD : va_D A [(o, .inr (4, [.ref q_1, .null, .null, .int 0, .int 0, .int 0, .int 0, .int 0, .null, .null, .int 0, .int 0, .int 0, .int 0, .int 0, .int 0, .int 0, .int 0, .null])), (q_1, .inl (g_2, 220, .inr (.inl f_222))), (q_223, .inl (g_224, 55, .inl f_250))] := hD
  refine lv_dup hx hb d_M_init_1474 rfl ?_
  refine lv_bipush (v := 26) hx hb d_M_init_1475 (by decide) ?_
  refine lv_iconst (v := 4) hx hb d_M_init_1477 (by decide) ?_
  refine va_iastG hx hb hK hP hD hS 2 1 rfl rfl (by unfold vp_in; decide) d_M_init_1478 (fun f_251 H locs hP hD hS => ?_)
  have hP : va_P (dC, dI) cls [(o, .inr (4, [.ref q_1, .null, .null, .int 0, .int 0, .int 0, .int 0, .int 0, .null, .null, .int 0, .int 0, .int 0, .int 0, .int 0, .int 0, .int 0, .int 0, .null])), (q_1, .inl (g_2, 220, .inr (.inl f_222))), (q_223, .inl (g_224, 55, .inl f_251))] H := hP
  have hD : va_D A [(o, .inr (4, [.ref q_1, .null, .null, .int 0, .int 0, .int 0, .int 0, .int 0, .null, .null, .int 0, .int 0, .int 0, .int 0, .int 0, .int 0, .int 0, .int 0, .null])), (q_1, .inl (g_2, 220, .inr (.inl f_222))), (q_223, .inl (g_224, 55, .inl f_251))] := hD
  refine lv_dup hx hb d_M_init_1479 rfl ?_
  refine lv_bipush (v := 27) hx hb d_M_init_1480 (by decide) ?_
  refine lv_iconst (v := 4) hx hb d_M_init_1482 (by decide) ?_
  refine va_iastG hx hb hK hP hD hS 2 1 rfl rfl (by unfold vp_in; decide) d_M_init_1483 (fun f_252 H locs hP hD hS => ?_)
  have hP : va_P (dC, dI) cls [(o, .inr (4, [.ref q_1, .null, .null, .int 0, .int 0, .int 0, .int 0, .int 0, .null, .null, .int 0, .int 0, .int 0, .int 0, .int 0, .int 0, .int 0, .int 0, .null])), (q_1, .inl (g_2, 220, .inr (.inl f_222))), (q_223, .inl (g_224, 55, .inl f_252))] H := hP
  have hD : va_D A [(o, .inr (4, [.ref q_1, .null, .null, .int 0, .int 0, .int 0, .int 0, .int 0, .null, .null, .int 0, .int 0, .int 0, .int 0, .int 0, .int 0, .int 0, .int 0, .null])), (q_1, .inl (g_2, 220, .inr (.inl f_222))), (q_223, .inl (g_224, 55, .inl f_252))] := hD
  refine lv_dup hx hb d_M_init_1484 rfl ?_
  refine lv_bipush (v := 28) hx hb d_M_init_1485 (by decide) ?_
  refine lv_bipush (v := 7) hx hb d_M_init_1487 (by decide) ?_
  refine va_iastG hx hb hK hP hD hS 2 1 rfl rfl (by unfold vp_in; decide) d_M_init_1489 (fun f_253 H locs hP hD hS => ?_)
  have hP : va_P (dC, dI) cls [(o, .inr (4, [.ref q_1, .null, .null, .int 0, .int 0, .int 0, .int 0, .int 0, .null, .null, .int 0, .int 0, .int 0, .int 0, .int 0, .int 0, .int 0, .int 0, .null])), (q_1, .inl (g_2, 220, .inr (.inl f_222))), (q_223, .inl (g_224, 55, .inl f_253))] H := hP
  have hD : va_D A [(o, .inr (4, [.ref q_1, .null, .null, .int 0, .int 0, .int 0, .int 0, .int 0, .null, .null, .int 0, .int 0, .int 0, .int 0, .int 0, .int 0, .int 0, .int 0, .null])), (q_1, .inl (g_2, 220, .inr (.inl f_222))), (q_223, .inl (g_224, 55, .inl f_253))] := hD
  refine lv_dup hx hb d_M_init_1490 rfl ?_
  refine lv_bipush (v := 29) hx hb d_M_init_1491 (by decide) ?_
  refine lv_bipush (v := 9) hx hb d_M_init_1493 (by decide) ?_
  refine va_iastG hx hb hK hP hD hS 2 1 rfl rfl (by unfold vp_in; decide) d_M_init_1495 (fun f_254 H locs hP hD hS => ?_)
  have hP : va_P (dC, dI) cls [(o, .inr (4, [.ref q_1, .null, .null, .int 0, .int 0, .int 0, .int 0, .int 0, .null, .null, .int 0, .int 0, .int 0, .int 0, .int 0, .int 0, .int 0, .int 0, .null])), (q_1, .inl (g_2, 220, .inr (.inl f_222))), (q_223, .inl (g_224, 55, .inl f_254))] H := hP
  have hD : va_D A [(o, .inr (4, [.ref q_1, .null, .null, .int 0, .int 0, .int 0, .int 0, .int 0, .null, .null, .int 0, .int 0, .int 0, .int 0, .int 0, .int 0, .int 0, .int 0, .null])), (q_1, .inl (g_2, 220, .inr (.inl f_222))), (q_223, .inl (g_224, 55, .inl f_254))] := hD
  refine lv_dup hx hb d_M_init_1496 rfl ?_
  refine lv_bipush (v := 30) hx hb d_M_init_1497 (by decide) ?_
  refine lv_bipush (v := 6) hx hb d_M_init_1499 (by decide) ?_
  refine va_iastG hx hb hK hP hD hS 2 1 rfl rfl (by unfold vp_in; decide) d_M_init_1501 (fun f_255 H locs hP hD hS => ?_)
  have hP : va_P (dC, dI) cls [(o, .inr (4, [.ref q_1, .null, .null, .int 0, .int 0, .int 0, .int 0, .int 0, .null, .null, .int 0, .int 0, .int 0, .int 0, .int 0, .int 0, .int 0, .int 0, .null])), (q_1, .inl (g_2, 220, .inr (.inl f_222))), (q_223, .inl (g_224, 55, .inl f_255))] H := hP
  have hD : va_D A [(o, .inr (4, [.ref q_1, .null, .null, .int 0, .int 0, .int 0, .int 0, .int 0, .null, .null, .int 0, .int 0, .int 0, .int 0, .int 0, .int 0, .int 0, .int 0, .null])), (q_1, .inl (g_2, 220, .inr (.inl f_222))), (q_223, .inl (g_224, 55, .inl f_255))] := hD
  refine lv_dup hx hb d_M_init_1502 rfl ?_
  refine lv_bipush (v := 31) hx hb d_M_init_1503 (by decide) ?_
  refine lv_iconst (v := 4) hx hb d_M_init_1505 (by decide) ?_
  refine va_iastG hx hb hK hP hD hS 2 1 rfl rfl (by unfold vp_in; decide) d_M_init_1506 (fun f_256 H locs hP hD hS => ?_)
  have hP : va_P (dC, dI) cls [(o, .inr (4, [.ref q_1, .null, .null, .int 0, .int 0, .int 0, .int 0, .int 0, .null, .null, .int 0, .int 0, .int 0, .int 0, .int 0, .int 0, .int 0, .int 0, .null])), (q_1, .inl (g_2, 220, .inr (.inl f_222))), (q_223, .inl (g_224, 55, .inl f_256))] H := hP
  have hD : va_D A [(o, .inr (4, [.ref q_1, .null, .null, .int 0, .int 0, .int 0, .int 0, .int 0, .null, .null, .int 0, .int 0, .int 0, .int 0, .int 0, .int 0, .int 0, .int 0, .null])), (q_1, .inl (g_2, 220, .inr (.inl f_222))), (q_223, .inl (g_224, 55, .inl f_256))] := hD
  refine lv_dup hx hb d_M_init_1507 rfl ?_
  refine lv_bipush (v := 32) hx hb d_M_init_1508 (by decide) ?_
  refine lv_iconst (v := 5) hx hb d_M_init_1510 (by decide) ?_
  refine va_iastG hx hb hK hP hD hS 2 1 rfl rfl (by unfold vp_in; decide) d_M_init_1511 (fun f_257 H locs hP hD hS => ?_)
  have hP : va_P (dC, dI) cls [(o, .inr (4, [.ref q_1, .null, .null, .int 0, .int 0, .int 0, .int 0, .int 0, .null, .null, .int 0, .int 0, .int 0, .int 0, .int 0, .int 0, .int 0, .int 0, .null])), (q_1, .inl (g_2, 220, .inr (.inl f_222))), (q_223, .inl (g_224, 55, .inl f_257))] H := hP
  have hD : va_D A [(o, .inr (4, [.ref q_1, .null, .null, .int 0, .int 0, .int 0, .int 0, .int 0, .null, .null, .int 0, .int 0, .int 0, .int 0, .int 0, .int 0, .int 0, .int 0, .null])), (q_1, .inl (g_2, 220, .inr (.inl f_222))), (q_223, .inl (g_224, 55, .inl f_257))] := hD
  refine lv_dup hx hb d_M_init_1512 rfl ?_
  refine lv_bipush (v := 33) hx hb d_M_init_1513 (by decide) ?_
  refine lv_iconst (v := 2) hx hb d_M_init_1515 (by decide) ?_
  refine va_iastG hx hb hK hP hD hS 2 1 rfl rfl (by unfold vp_in; decide) d_M_init_1516 (fun f_258 H locs hP hD hS => ?_)
  have hP : va_P (dC, dI) cls [(o, .inr (4, [.ref q_1, .null, .null, .int 0, .int 0, .int 0, .int 0, .int 0, .null, .null, .int 0, .int 0, .int 0, .int 0, .int 0, .int 0, .int 0, .int 0, .null])), (q_1, .inl (g_2, 220, .inr (.inl f_222))), (q_223, .inl (g_224, 55, .inl f_258))] H := hP
  have hD : va_D A [(o, .inr (4, [.ref q_1, .null, .null, .int 0, .int 0, .int 0, .int 0, .int 0, .null, .null, .int 0, .int 0, .int 0, .int 0, .int 0, .int 0, .int 0, .int 0, .null])), (q_1, .inl (g_2, 220, .inr (.inl f_222))), (q_223, .inl (g_224, 55, .inl f_258))] := hD
  refine lv_dup hx hb d_M_init_1517 rfl ?_
  refine lv_bipush (v := 34) hx hb d_M_init_1518 (by decide) ?_
  refine lv_bipush (v := 8) hx hb d_M_init_1520 (by decide) ?_
  refine va_iastG hx hb hK hP hD hS 2 1 rfl rfl (by unfold vp_in; decide) d_M_init_1522 (fun f_259 H locs hP hD hS => ?_)
  have hP : va_P (dC, dI) cls [(o, .inr (4, [.ref q_1, .null, .null, .int 0, .int 0, .int 0, .int 0, .int 0, .null, .null, .int 0, .int 0, .int 0, .int 0, .int 0, .int 0, .int 0, .int 0, .null])), (q_1, .inl (g_2, 220, .inr (.inl f_222))), (q_223, .inl (g_224, 55, .inl f_259))] H := hP
  have hD : va_D A [(o, .inr (4, [.ref q_1, .null, .null, .int 0, .int 0, .int 0, .int 0, .int 0, .null, .null, .int 0, .int 0, .int 0, .int 0, .int 0, .int 0, .int 0, .int 0, .null])), (q_1, .inl (g_2, 220, .inr (.inl f_222))), (q_223, .inl (g_224, 55, .inl f_259))] := hD
  refine lv_dup hx hb d_M_init_1523 rfl ?_
  refine lv_bipush (v := 35) hx hb d_M_init_1524 (by decide) ?_
  refine lv_bipush (v := 7) hx hb d_M_init_1526 (by decide) ?_
  refine va_iastG hx hb hK hP hD hS 2 1 rfl rfl (by unfold vp_in; decide) d_M_init_1528 (fun f_260 H locs hP hD hS => ?_)
  have hP : va_P (dC, dI) cls [(o, .inr (4, [.ref q_1, .null, .null, .int 0, .int 0, .int 0, .int 0, .int 0, .null, .null, .int 0, .int 0, .int 0, .int 0, .int 0, .int 0, .int 0, .int 0, .null])), (q_1, .inl (g_2, 220, .inr (.inl f_222))), (q_223, .inl (g_224, 55, .inl f_260))] H := hP
  have hD : va_D A [(o, .inr (4, [.ref q_1, .null, .null, .int 0, .int 0, .int 0, .int 0, .int 0, .null, .null, .int 0, .int 0, .int 0, .int 0, .int 0, .int 0, .int 0, .int 0, .null])), (q_1, .inl (g_2, 220, .inr (.inl f_222))), (q_223, .inl (g_224, 55, .inl f_260))] := hD
  refine lv_dup hx hb d_M_init_1529 rfl ?_
  refine lv_bipush (v := 36) hx hb d_M_init_1530 (by decide) ?_
  refine lv_iconst (v := 5) hx hb d_M_init_1532 (by decide) ?_
  refine va_iastG hx hb hK hP hD hS 2 1 rfl rfl (by unfold vp_in; decide) d_M_init_1533 (fun f_261 H locs hP hD hS => ?_)
  have hP : va_P (dC, dI) cls [(o, .inr (4, [.ref q_1, .null, .null, .int 0, .int 0, .int 0, .int 0, .int 0, .null, .null, .int 0, .int 0, .int 0, .int 0, .int 0, .int 0, .int 0, .int 0, .null])), (q_1, .inl (g_2, 220, .inr (.inl f_222))), (q_223, .inl (g_224, 55, .inl f_261))] H := hP
  have hD : va_D A [(o, .inr (4, [.ref q_1, .null, .null, .int 0, .int 0, .int 0, .int 0, .int 0, .null, .null, .int 0, .int 0, .int 0, .int 0, .int 0, .int 0, .int 0, .int 0, .null])), (q_1, .inl (g_2, 220, .inr (.inl f_222))), (q_223, .inl (g_224, 55, .inl f_261))] := hD
  refine lv_dup hx hb d_M_init_1534 rfl ?_
  refine lv_bipush (v := 37) hx hb d_M_init_1535 (by decide) ?_
  refine lv_iconst (v := 5) hx hb d_M_init_1537 (by decide) ?_
  refine va_iastG hx hb hK hP hD hS 2 1 rfl rfl (by unfold vp_in; decide) d_M_init_1538 (fun f_262 H locs hP hD hS => ?_)
  have hP : va_P (dC, dI) cls [(o, .inr (4, [.ref q_1, .null, .null, .int 0, .int 0, .int 0, .int 0, .int 0, .null, .null, .int 0, .int 0, .int 0, .int 0, .int 0, .int 0, .int 0, .int 0, .null])), (q_1, .inl (g_2, 220, .inr (.inl f_222))), (q_223, .inl (g_224, 55, .inl f_262))] H := hP
  have hD : va_D A [(o, .inr (4, [.ref q_1, .null, .null, .int 0, .int 0, .int 0, .int 0, .int 0, .null, .null, .int 0, .int 0, .int 0, .int 0, .int 0, .int 0, .int 0, .int 0, .null])), (q_1, .inl (g_2, 220, .inr (.inl f_222))), (q_223, .inl (g_224, 55, .inl f_262))] := hD
  refine lv_dup hx hb d_M_init_1539 rfl ?_
  refine lv_bipush (v := 38) hx hb d_M_init_1540 (by decide) ?_
  refine lv_bipush (v := 10) hx hb d_M_init_1542 (by decide) ?_
  refine va_iastG hx hb hK hP hD hS 2 1 rfl rfl (by unfold vp_in; decide) d_M_init_1544 (fun f_263 H locs hP hD hS => ?_)
  have hP : va_P (dC, dI) cls [(o, .inr (4, [.ref q_1, .null, .null, .int 0, .int 0, .int 0, .int 0, .int 0, .null, .null, .int 0, .int 0, .int 0, .int 0, .int 0, .int 0, .int 0, .int 0, .null])), (q_1, .inl (g_2, 220, .inr (.inl f_222))), (q_223, .inl (g_224, 55, .inl f_263))] H := hP
  have hD : va_D A [(o, .inr (4, [.ref q_1, .null, .null, .int 0, .int 0, .int 0, .int 0, .int 0, .null, .null, .int 0, .int 0, .int 0, .int 0, .int 0, .int 0, .int 0, .int 0, .null])), (q_1, .inl (g_2, 220, .inr (.inl f_222))), (q_223, .inl (g_224, 55, .inl f_263))] := hD
  refine lv_dup hx hb d_M_init_1545 rfl ?_
  refine lv_bipush (v := 39) hx hb d_M_init_1546 (by decide) ?_
  refine lv_iconst (v := 3) hx hb d_M_init_1548 (by decide) ?_
  refine va_iastG hx hb hK hP hD hS 2 1 rfl rfl (by unfold vp_in; decide) d_M_init_1549 (fun f_264 H locs hP hD hS => ?_)
  have hP : va_P (dC, dI) cls [(o, .inr (4, [.ref q_1, .null, .null, .int 0, .int 0, .int 0, .int 0, .int 0, .null, .null, .int 0, .int 0, .int 0, .int 0, .int 0, .int 0, .int 0, .int 0, .null])), (q_1, .inl (g_2, 220, .inr (.inl f_222))), (q_223, .inl (g_224, 55, .inl f_264))] H := hP
  have hD : va_D A [(o, .inr (4, [.ref q_1, .null, .null, .int 0, .int 0, .int 0, .int 0, .int 0, .null, .null, .int 0, .int 0, .int 0, .int 0, .int 0, .int 0, .int 0, .int 0, .null])), (q_1, .inl (g_2, 220, .inr (.inl f_222))), (q_223, .inl (g_224, 55, .inl f_264))] := hD
  refine lv_dup hx hb d_M_init_1550 rfl ?_
  refine lv_bipush (v := 40) hx hb d_M_init_1551 (by decide) ?_
  refine lv_bipush (v := 9) hx hb d_M_init_1553 (by decide) ?_
  refine va_iastG hx hb hK hP hD hS 2 1 rfl rfl (by unfold vp_in; decide) d_M_init_1555 (fun f_265 H locs hP hD hS => ?_)
  have hP : va_P (dC, dI) cls [(o, .inr (4, [.ref q_1, .null, .null, .int 0, .int 0, .int 0, .int 0, .int 0, .null, .null, .int 0, .int 0, .int 0, .int 0, .int 0, .int 0, .int 0, .int 0, .null])), (q_1, .inl (g_2, 220, .inr (.inl f_222))), (q_223, .inl (g_224, 55, .inl f_265))] H := hP
  have hD : va_D A [(o, .inr (4, [.ref q_1, .null, .null, .int 0, .int 0, .int 0, .int 0, .int 0, .null, .null, .int 0, .int 0, .int 0, .int 0, .int 0, .int 0, .int 0, .int 0, .null])), (q_1, .inl (g_2, 220, .inr (.inl f_222))), (q_223, .inl (g_224, 55, .inl f_265))] := hD
  refine lv_dup hx hb d_M_init_1556 rfl ?_
  refine lv_bipush (v := 41) hx hb d_M_init_1557 (by decide) ?_
  refine lv_bipush (v := 6) hx hb d_M_init_1559 (by decide) ?_
  refine va_iastG hx hb hK hP hD hS 2 1 rfl rfl (by unfold vp_in; decide) d_M_init_1561 (fun f_266 H locs hP hD hS => ?_)
  have hP : va_P (dC, dI) cls [(o, .inr (4, [.ref q_1, .null, .null, .int 0, .int 0, .int 0, .int 0, .int 0, .null, .null, .int 0, .int 0, .int 0, .int 0, .int 0, .int 0, .int 0, .int 0, .null])), (q_1, .inl (g_2, 220, .inr (.inl f_222))), (q_223, .inl (g_224, 55, .inl f_266))] H := hP
  have hD : va_D A [(o, .inr (4, [.ref q_1, .null, .null, .int 0, .int 0, .int 0, .int 0, .int 0, .null, .null, .int 0, .int 0, .int 0, .int 0, .int 0, .int 0, .int 0, .int 0, .null])), (q_1, .inl (g_2, 220, .inr (.inl f_222))), (q_223, .inl (g_224, 55, .inl f_266))] := hD
  refine lv_dup hx hb d_M_init_1562 rfl ?_
  refine lv_bipush (v := 42) hx hb d_M_init_1563 (by decide) ?_
  refine lv_iconst (v := 2) hx hb d_M_init_1565 (by decide) ?_
  refine va_iastG hx hb hK hP hD hS 2 1 rfl rfl (by unfold vp_in; decide) d_M_init_1566 (fun f_267 H locs hP hD hS => ?_)
  have hP : va_P (dC, dI) cls [(o, .inr (4, [.ref q_1, .null, .null, .int 0, .int 0, .int 0, .int 0, .int 0, .null, .null, .int 0, .int 0, .int 0, .int 0, .int 0, .int 0, .int 0, .int 0, .null])), (q_1, .inl (g_2, 220, .inr (.inl f_222))), (q_223, .inl (g_224, 55, .inl f_267))] H := hP
  have hD : va_D A [(o, .inr (4, [.ref q_1, .null, .null, .int 0, .int 0, .int 0, .int 0, .int 0, .null, .null, .int 0, .int 0, .int 0, .int 0, .int 0, .int 0, .int 0, .int 0, .null])), (q_1, .inl (g_2, 220, .inr (.inl f_222))), (q_223, .inl (g_224, 55, .inl f_267))] := hD
  refine lv_dup hx hb d_M_init_1567 rfl ?_
  refine lv_bipush (v := 43) hx hb d_M_init_1568 (by decide) ?_
  refine lv_iconst (v := 2) hx hb d_M_init_1570 (by decide) ?_
  refine va_iastG hx hb hK hP hD hS 2 1 rfl rfl (by unfold vp_in; decide) d_M_init_1571 (fun f_268 H locs hP hD hS => ?_)
  have hP : va_P (dC, dI) cls [(o, .inr (4, [.ref q_1, .null, .null, .int 0, .int 0, .int 0, .int 0, .int 0, .null, .null, .int 0, .int 0, .int 0, .int 0, .int 0, .int 0, .int 0, .int 0, .null])), (q_1, .inl (g_2, 220, .inr (.inl f_222))), (q_223, .inl (g_224, 55, .inl f_268))] H := hP
  have hD : va_D A [(o, .inr (4, [.ref q_1, .null, .null, .int 0, .int 0, .int 0, .int 0, .int 0, .null, .null, .int 0, .int 0, .int 0, .int 0, .int 0, .int 0, .int 0, .int 0, .null])), (q_1, .inl (g_2, 220, .inr (.inl f_222))), (q_223, .inl (g_224, 55, .inl f_268))] := hD
  refine lv_dup hx hb d_M_init_1572 rfl ?_
  refine lv_bipush (v := 44) hx hb d_M_init_1573 (by decide) ?_
  refine lv_iconst (v := 2) hx hb d_M_init_1575 (by decide) ?_
  refine va_iastG hx hb hK hP hD hS 2 1 rfl rfl (by unfold vp_in; decide) d_M_init_1576 (fun f_269 H locs hP hD hS => ?_)
  have hP : va_P (dC, dI) cls [(o, .inr (4, [.ref q_1, .null, .null, .int 0, .int 0, .int 0, .int 0, .int 0, .null, .null, .int 0, .int 0, .int 0, .int 0, .int 0, .int 0, .int 0, .int 0, .null])), (q_1, .inl (g_2, 220, .inr (.inl f_222))), (q_223, .inl (g_224, 55, .inl f_269))] H := hP
  have hD : va_D A [(o, .inr (4, [.ref q_1, .null, .null, .int 0, .int 0, .int 0, .int 0, .int 0, .null, .null, .int 0, .int 0, .int 0, .int 0, .int 0, .int 0, .int 0, .int 0, .null])), (q_1, .inl (g_2, 220, .inr (.inl f_222))), (q_223, .inl (g_224, 55, .inl f_269))] := hD
  refine lv_dup hx hb d_M_init_1577 rfl ?_
  refine lv_bipush (v := 45) hx hb d_M_init_1578 (by decide) ?_
  refine lv_iconst (v := 2) hx hb d_M_init_1580 (by decide) ?_
  refine va_iastG hx hb hK hP hD hS 2 1 rfl rfl (by unfold vp_in; decide) d_M_init_1581 (fun f_270 H locs hP hD hS => ?_)
  have hP : va_P (dC, dI) cls [(o, .inr (4, [.ref q_1, .null, .null, .int 0, .int 0, .int 0, .int 0, .int 0, .null, .null, .int 0, .int 0, .int 0, .int 0, .int 0, .int 0, .int 0, .int 0, .null])), (q_1, .inl (g_2, 220, .inr (.inl f_222))), (q_223, .inl (g_224, 55, .inl f_270))] H := hP
  have hD : va_D A [(o, .inr (4, [.ref q_1, .null, .null, .int 0, .int 0, .int 0, .int 0, .int 0, .null, .null, .int 0, .int 0, .int 0, .int 0, .int 0, .int 0, .int 0, .int 0, .null])), (q_1, .inl (g_2, 220, .inr (.inl f_222))), (q_223, .inl (g_224, 55, .inl f_270))] := hD
  refine lv_dup hx hb d_M_init_1582 rfl ?_
  refine lv_bipush (v := 46) hx hb d_M_init_1583 (by decide) ?_
  refine lv_iconst (v := 2) hx hb d_M_init_1585 (by decide) ?_
  refine va_iastG hx hb hK hP hD hS 2 1 rfl rfl (by unfold vp_in; decide) d_M_init_1586 (fun f_271 H locs hP hD hS => ?_)
  have hP : va_P (dC, dI) cls [(o, .inr (4, [.ref q_1, .null, .null, .int 0, .int 0, .int 0, .int 0, .int 0, .null, .null, .int 0, .int 0, .int 0, .int 0, .int 0, .int 0, .int 0, .int 0, .null])), (q_1, .inl (g_2, 220, .inr (.inl f_222))), (q_223, .inl (g_224, 55, .inl f_271))] H := hP
  have hD : va_D A [(o, .inr (4, [.ref q_1, .null, .null, .int 0, .int 0, .int 0, .int 0, .int 0, .null, .null, .int 0, .int 0, .int 0, .int 0, .int 0, .int 0, .int 0, .int 0, .null])), (q_1, .inl (g_2, 220, .inr (.inl f_222))), (q_223, .inl (g_224, 55, .inl f_271))] := hD
  refine lv_dup hx hb d_M_init_1587 rfl ?_
  refine lv_bipush (v := 47) hx hb d_M_init_1588 (by decide) ?_
  refine lv_iconst (v := 2) hx hb d_M_init_1590 (by decide) ?_
  refine va_iastG hx hb hK hP hD hS 2 1 rfl rfl (by unfold vp_in; decide) d_M_init_1591 (fun f_272 H locs hP hD hS => ?_)
  have hP : va_P (dC, dI) cls [(o, .inr (4, [.ref q_1, .null, .null, .int 0, .int 0, .int 0, .int 0, .int 0, .null, .null, .int 0, .int 0, .int 0, .int 0, .int 0, .int 0, .int 0, .int 0, .null])), (q_1, .inl (g_2, 220, .inr (.inl f_222))), (q_223, .inl (g_224, 55, .inl f_272))] H := hP
  have hD : va_D A [(o, .inr (4, [.ref q_1, .null, .null, .int 0, .int 0, .int 0, .int 0, .int 0, .null, .null, .int 0, .int 0, .int 0, .int 0, .int 0, .int 0, .int 0, .int 0, .null])), (q_1, .inl (g_2, 220, .inr (.inl f_222))), (q_223, .inl (g_224, 55, .inl f_272))] := hD
  refine lv_dup hx hb d_M_init_1592 rfl ?_
  refine lv_bipush (v := 48) hx hb d_M_init_1593 (by decide) ?_
  refine lv_bipush (v := 7) hx hb d_M_init_1595 (by decide) ?_
  refine va_iastG hx hb hK hP hD hS 2 1 rfl rfl (by unfold vp_in; decide) d_M_init_1597 (fun f_273 H locs hP hD hS => ?_)
  have hP : va_P (dC, dI) cls [(o, .inr (4, [.ref q_1, .null, .null, .int 0, .int 0, .int 0, .int 0, .int 0, .null, .null, .int 0, .int 0, .int 0, .int 0, .int 0, .int 0, .int 0, .int 0, .null])), (q_1, .inl (g_2, 220, .inr (.inl f_222))), (q_223, .inl (g_224, 55, .inl f_273))] H := hP
  have hD : va_D A [(o, .inr (4, [.ref q_1, .null, .null, .int 0, .int 0, .int 0, .int 0, .int 0, .null, .null, .int 0, .int 0, .int 0, .int 0, .int 0, .int 0, .int 0, .int 0, .null])), (q_1, .inl (g_2, 220, .inr (.inl f_222))), (q_223, .inl (g_224, 55, .inl f_273))] := hD
  refine lv_dup hx hb d_M_init_1598 rfl ?_
  refine lv_bipush (v := 49) hx hb d_M_init_1599 (by decide) ?_
  refine lv_bipush (v := 15) hx hb d_M_init_1601 (by decide) ?_
  refine va_iastG hx hb hK hP hD hS 2 1 rfl rfl (by unfold vp_in; decide) d_M_init_1603 (fun f_274 H locs hP hD hS => ?_)
  have hP : va_P (dC, dI) cls [(o, .inr (4, [.ref q_1, .null, .null, .int 0, .int 0, .int 0, .int 0, .int 0, .null, .null, .int 0, .int 0, .int 0, .int 0, .int 0, .int 0, .int 0, .int 0, .null])), (q_1, .inl (g_2, 220, .inr (.inl f_222))), (q_223, .inl (g_224, 55, .inl f_274))] H := hP
  have hD : va_D A [(o, .inr (4, [.ref q_1, .null, .null, .int 0, .int 0, .int 0, .int 0, .int 0, .null, .null, .int 0, .int 0, .int 0, .int 0, .int 0, .int 0, .int 0, .int 0, .null])), (q_1, .inl (g_2, 220, .inr (.inl f_222))), (q_223, .inl (g_224, 55, .inl f_274))] := hD
  refine lv_dup hx hb d_M_init_1604 rfl ?_
  refine lv_bipush (v := 50) hx hb d_M_init_1605 (by decide) ?_
  refine lv_bipush (v := 15) hx hb d_M_init_1607 (by decide) ?_
  refine va_iastG hx hb hK hP hD hS 2 1 rfl rfl (by unfold vp_in; decide) d_M_init_1609 (fun f_275 H locs hP hD hS => ?_)
  have hP : va_P (dC, dI) cls [(o, .inr (4, [.ref q_1, .null, .null, .int 0, .int 0, .int 0, .int 0, .int 0, .null, .null, .int 0, .int 0, .int 0, .int 0, .int 0, .int 0, .int 0, .int 0, .null])), (q_1, .inl (g_2, 220, .inr (.inl f_222))), (q_223, .inl (g_224, 55, .inl f_275))] H := hP
  have hD : va_D A [(o, .inr (4, [.ref q_1, .null, .null, .int 0, .int 0, .int 0, .int 0, .int 0, .null, .null, .int 0, .int 0, .int 0, .int 0, .int 0, .int 0, .int 0, .int 0, .null])), (q_1, .inl (g_2, 220, .inr (.inl f_222))), (q_223, .inl (g_224, 55, .inl f_275))] := hD
  refine lv_dup hx hb d_M_init_1610 rfl ?_
  refine lv_bipush (v := 51) hx hb d_M_init_1611 (by decide) ?_
  refine lv_bipush (v := 10) hx hb d_M_init_1613 (by decide) ?_
  refine va_iastG hx hb hK hP hD hS 2 1 rfl rfl (by unfold vp_in; decide) d_M_init_1615 (fun f_276 H locs hP hD hS => ?_)
  have hP : va_P (dC, dI) cls [(o, .inr (4, [.ref q_1, .null, .null, .int 0, .int 0, .int 0, .int 0, .int 0, .null, .null, .int 0, .int 0, .int 0, .int 0, .int 0, .int 0, .int 0, .int 0, .null])), (q_1, .inl (g_2, 220, .inr (.inl f_222))), (q_223, .inl (g_224, 55, .inl f_276))] H := hP
  have hD : va_D A [(o, .inr (4, [.ref q_1, .null, .null, .int 0, .int 0, .int 0, .int 0, .int 0, .null, .null, .int 0, .int 0, .int 0, .int 0, .int 0, .int 0, .int 0, .int 0, .null])), (q_1, .inl (g_2, 220, .inr (.inl f_222))), (q_223, .inl (g_224, 55, .inl f_276))] := hD
  refine lv_dup hx hb d_M_init_1616 rfl ?_
  refine lv_bipush (v := 52) hx hb d_M_init_1617 (by decide) ?_
  refine lv_bipush (v := 10) hx hb d_M_init_1619 (by decide) ?_
  refine va_iastG hx hb hK hP hD hS 2 1 rfl rfl (by unfold vp_in; decide) d_M_init_1621 (fun f_277 H locs hP hD hS => ?_)
  have hP : va_P (dC, dI) cls [(o, .inr (4, [.ref q_1, .null, .null, .int 0, .int 0, .int 0, .int 0, .int 0, .null, .null, .int 0, .int 0, .int 0, .int 0, .int 0, .int 0, .int 0, .int 0, .null])), (q_1, .inl (g_2, 220, .inr (.inl f_222))), (q_223, .inl (g_224, 55, .inl f_277))] H := hP
  have hD : va_D A [(o, .inr (4, [.ref q_1, .null, .null, .int 0, .int 0, .int 0, .int 0, .int 0, .null, .null, .int 0, .int 0, .int 0, .int 0, .int 0, .int 0, .int 0, .int 0, .null])), (q_1, .inl (g_2, 220, .inr (.inl f_222))), (q_223, .inl (g_224, 55, .inl f_277))] := hD
  refine lv_dup hx hb d_M_init_1622 rfl ?_
  refine lv_bipush (v := 53) hx hb d_M_init_1623 (by decide) ?_
  refine lv_bipush (v := 26) hx hb d_M_init_1625 (by decide) ?_
  refine va_iastG hx hb hK hP hD hS 2 1 rfl rfl (by unfold vp_in; decide) d_M_init_1627 (fun f_278 H locs hP hD hS => ?_)
  have hP : va_P (dC, dI) cls [(o, .inr (4, [.ref q_1, .null, .null, .int 0, .int 0, .int 0, .int 0, .int 0, .null, .null, .int 0, .int 0, .int 0, .int 0, .int 0, .int 0, .int 0, .int 0, .null])), (q_1, .inl (g_2, 220, .inr (.inl f_222))), (q_223, .inl (g_224, 55, .inl f_278))] H := hP
  have hD : va_D A [(o, .inr (4, [.ref q_1, .null, .null, .int 0, .int 0, .int 0, .int 0, .int 0, .null, .null, .int 0, .int 0, .int 0, .int 0, .int 0, .int 0, .int 0, .int 0, .null])), (q_1, .inl (g_2, 220, .inr (.inl f_222))), (q_223, .inl (g_224, 55, .inl f_278))] := hD
  refine lv_dup hx hb d_M_init_1628 rfl ?_
  refine lv_bipush (v := 54) hx hb d_M_init_1629 (by decide) ?_
  refine lv_iconst (v := 4) hx hb d_M_init_1631 (by decide) ?_
  refine va_iastG hx hb hK hP hD hS 2 1 rfl rfl (by unfold vp_in; decide) d_M_init_1632 (fun f_279 H locs hP hD hS => ?_)
  have hP : va_P (dC, dI) cls [(o, .inr (4, [.ref q_1, .null, .null, .int 0, .int 0, .int 0, .int 0, .int 0, .null, .null, .int 0, .int 0, .int 0, .int 0, .int 0, .int 0, .int 0, .int 0, .null])), (q_1, .inl (g_2, 220, .inr (.inl f_222))), (q_223, .inl (g_224, 55, .inl f_279))] H := hP
  have hD : va_D A [(o, .inr (4, [.ref q_1, .null, .null, .int 0, .int 0, .int 0, .int 0, .int 0, .null, .null, .int 0, .int 0, .int 0, .int 0, .int 0, .int 0, .int 0, .int 0, .null])), (q_1, .inl (g_2, 220, .inr (.inl f_222))), (q_223, .inl (g_224, 55, .inl f_279))] := hD
  refine va_putF (D := (dC, dI)) (ci := 4) (v := .ref q_223) (ty := .array .int) (C := "SieveDeskModel") (T := F_M) (N := 19) hx hb ht i_M ty_M ty_M_ok n_M hown hK hP hD hS 0 rfl rfl 1 (by decide) (ht _ k_628) (fun _ h9 => h9) rfl hin rfl (ty_M_ok 1 (by decide)) rfl rfl (Nat.le_of_ble_eq_true rfl) d_M_init_1633 (fun H locs hP hD hS => ?_)
  have hP : va_P (dC, dI) cls [(o, .inr (4, [.ref q_1, .ref q_223, .null, .int 0, .int 0, .int 0, .int 0, .int 0, .null, .null, .int 0, .int 0, .int 0, .int 0, .int 0, .int 0, .int 0, .int 0, .null])), (q_1, .inl (g_2, 220, .inr (.inl f_222))), (q_223, .inl (g_224, 55, .inl f_279))] H := hP
  have hD : va_D A [(o, .inr (4, [.ref q_1, .ref q_223, .null, .int 0, .int 0, .int 0, .int 0, .int 0, .null, .null, .int 0, .int 0, .int 0, .int 0, .int 0, .int 0, .int 0, .int 0, .null])), (q_1, .inl (g_2, 220, .inr (.inl f_222))), (q_223, .inl (g_224, 55, .inl f_279))] := hD
  refine lv_aload_n hx hb d_M_init_1636 rfl (lv_at hl 0 rfl) ?_
  refine lv_sipush (v := 400) hx hb d_M_init_1637 (by decide) ?_
  refine va_newa (atype := .int) (ty := .int) (N' := 400) (a0 := (400, .inl (fun _ => 0))) hx hb (ht _ k_118) rfl hK hP hD hS hA (fun _ => rfl) (by decide) (by decide) (by decide) (Nat.le_of_ble_eq_true rfl) (Nat.le_of_ble_eq_true rfl) d_M_init_1640 (fun q_280 g_281 H hK hP hD hS => ?_)
  have hP : va_P (dC, dI) cls [(o, .inr (4, [.ref q_1, .ref q_223, .null, .int 0, .int 0, .int 0, .int 0, .int 0, .null, .null, .int 0, .int 0, .int 0, .int 0, .int 0, .int 0, .int 0, .int 0, .null])), (q_1, .inl (g_2, 220, .inr (.inl f_222))), (q_223, .inl (g_224, 55, .inl f_279)), (q_280, .inl (g_281, 400, .inl (fun _ => 0)))] H := hP
  have hD : va_D A [(o, .inr (4, [.ref q_1, .ref q_223, .null, .int 0, .int 0, .int 0, .int 0, .int 0, .null, .null, .int 0, .int 0, .int 0, .int 0, .int 0, .int 0, .int 0, .int 0, .null])), (q_1, .inl (g_2, 220, .inr (.inl f_222))), (q_223, .inl (g_224, 55, .inl f_279)), (q_280, .inl (g_281, 400, .inl (fun _ => 0)))] := hD
  have hK : va_K (dC, dI) cls [(g_2, .long), (g_224, .int), (g_281, .int)] s := hK
  refine W.widen (k := 3) (n := 675) (by decide) (by decide) ?_
  refine va_putF (D := (dC, dI)) (ci := 4) (v := .ref q_280) (ty := .array .int) (C := "SieveDeskModel") (T := F_M) (N := 19) hx hb ht i_M ty_M ty_M_ok n_M hown hK hP hD hS 0 rfl rfl 2 (by decide) (ht _ k_629) (fun _ h9 => h9) rfl hin rfl (ty_M_ok 2 (by decide)) rfl rfl (Nat.le_of_ble_eq_true rfl) d_M_init_1642 (fun H locs hP hD hS => ?_)
  have hP : va_P (dC, dI) cls [(o, .inr (4, [.ref q_1, .ref q_223, .ref q_280, .int 0, .int 0, .int 0, .int 0, .int 0, .null, .null, .int 0, .int 0, .int 0, .int 0, .int 0, .int 0, .int 0, .int 0, .null])), (q_1, .inl (g_2, 220, .inr (.inl f_222))), (q_223, .inl (g_224, 55, .inl f_279)), (q_280, .inl (g_281, 400, .inl (fun _ => 0)))] H := hP
  have hD : va_D A [(o, .inr (4, [.ref q_1, .ref q_223, .ref q_280, .int 0, .int 0, .int 0, .int 0, .int 0, .null, .null, .int 0, .int 0, .int 0, .int 0, .int 0, .int 0, .int 0, .int 0, .null])), (q_1, .inl (g_2, 220, .inr (.inl f_222))), (q_223, .inl (g_224, 55, .inl f_279)), (q_280, .inl (g_281, 400, .inl (fun _ => 0)))] := hD
  refine lv_aload_n hx hb d_M_init_1645 rfl (lv_at hl 0 rfl) ?_
  refine lv_iconst (v := 4) hx hb d_M_init_1646 (by decide) ?_
  refine va_newa (atype := .long) (ty := .long) (N' := 4) (a0 := (4, .inr (.inl (fun _ => 0)))) hx hb (ht _ k_685) rfl hK hP hD hS hA (fun _ => rfl) (by decide) (by decide) (by decide) (Nat.le_of_ble_eq_true rfl) (Nat.le_of_ble_eq_true rfl) d_M_init_1647 (fun q_282 g_283 H hK hP hD hS => ?_)
  have hP : va_P (dC, dI) cls [(o, .inr (4, [.ref q_1, .ref q_223, .ref q_280, .int 0, .int 0, .int 0, .int 0, .int 0, .null, .null, .int 0, .int 0, .int 0, .int 0, .int 0, .int 0, .int 0, .int 0, .null])), (q_1, .inl (g_2, 220, .inr (.inl f_222))), (q_223, .inl (g_224, 55, .inl f_279)), (q_280, .inl (g_281, 400, .inl (fun _ => 0))), (q_282, .inl (g_283, 4, .inr (.inl (fun _ => 0))))] H := hP
  have hD : va_D A [(o, .inr (4, [.ref q_1, .ref q_223, .ref q_280, .int 0, .int 0, .int 0, .int 0, .int 0, .null, .null, .int 0, .int 0, .int 0, .int 0, .int 0, .int 0, .int 0, .int 0, .null])), (q_1, .inl (g_2, 220, .inr (.inl f_222))), (q_223, .inl (g_224, 55, .inl f_279)), (q_280, .inl (g_281, 400, .inl (fun _ => 0))), (q_282, .inl (g_283, 4, .inr (.inl (fun _ => 0))))] := hD
  have hK : va_K (dC, dI) cls [(g_2, .long), (g_224, .int), (g_281, .int), (g_283, .long)] s := hK
  refine W.widen (k := 4) (n := 679) (by decide) (by decide) ?_
  refine va_putF (D := (dC, dI)) (ci := 4) (v := .ref q_282) (ty := .array .long) (C := "SieveDeskModel") (T := F_M) (N := 19) hx hb ht i_M ty_M ty_M_ok n_M hown hK hP hD hS 0 rfl rfl 8 (by decide) (ht _ k_635) (fun _ h9 => h9) rfl hin rfl (ty_M_ok 8 (by decide)) rfl rfl (Nat.le_of_ble_eq_true rfl) d_M_init_1649 (fun H locs hP hD hS => ?_)
  have hP : va_P (dC, dI) cls [(o, .inr (4, [.ref q_1, .ref q_223, .ref q_280, .int 0, .int 0, .int 0, .int 0, .int 0, .ref q_282, .null, .int 0, .int 0, .int 0, .int 0, .int 0, .int 0, .int 0, .int 0, .null])), (q_1, .inl (g_2, 220, .inr (.inl f_222))), (q_223, .inl (g_224, 55, .inl f_279)), (q_280, .inl (g_281, 400, .inl (fun _ => 0))), (q_282, .inl (g_283, 4, .inr (.inl (fun _ => 0))))] H := hP
  have hD : va_D A [(o, .inr (4, [.ref q_1, .ref q_223, .ref q_280, .int 0, .int 0, .int 0, .int 0, .int 0, .ref q_282, .null, .int 0, .int 0, .int 0, .int 0, .int 0, .int 0, .int 0, .int 0, .null])), (q_1, .inl (g_2, 220, .inr (.inl f_222))), (q_223, .inl (g_224, 55, .inl f_279)), (q_280, .inl (g_281, 400, .inl (fun _ => 0))), (q_282, .inl (g_283, 4, .inr (.inl (fun _ => 0))))] := hD
  refine lv_aload_n hx hb d_M_init_1652 rfl (lv_at hl 0 rfl) ?_
  refine lv_sipush (v := 1010) hx hb d_M_init_1653 (by decide) ?_
  refine va_newa (atype := .int) (ty := .int) (N' := 1010) (a0 := (1010, .inl (fun _ => 0))) hx hb (ht _ k_118) rfl hK hP hD hS hA (fun _ => rfl) (by decide) (by decide) (by decide) (Nat.le_of_ble_eq_true rfl) (Nat.le_of_ble_eq_true rfl) d_M_init_1656 (fun q_284 g_285 H hK hP hD hS => ?_)
  have hP : va_P (dC, dI) cls [(o, .inr (4, [.ref q_1, .ref q_223, .ref q_280, .int 0, .int 0, .int 0, .int 0, .int 0, .ref q_282, .null, .int 0, .int 0, .int 0, .int 0, .int 0, .int 0, .int 0, .int 0, .null])), (q_1, .inl (g_2, 220, .inr (.inl f_222))), (q_223, .inl (g_224, 55, .inl f_279)), (q_280, .inl (g_281, 400, .inl (fun _ => 0))), (q_282, .inl (g_283, 4, .inr (.inl (fun _ => 0)))), (q_284, .inl (g_285, 1010, .inl (fun _ => 0)))] H := hP
  have hD : va_D A [(o, .inr (4, [.ref q_1, .ref q_223, .ref q_280, .int 0, .int 0, .int 0, .int 0, .int 0, .ref q_282, .null, .int 0, .int 0, .int 0, .int 0, .int 0, .int 0, .int 0, .int 0, .null])), (q_1, .inl (g_2, 220, .inr (.inl f_222))), (q_223, .inl (g_224, 55, .inl f_279)), (q_280, .inl (g_281, 400, .inl (fun _ => 0))), (q_282, .inl (g_283, 4, .inr (.inl (fun _ => 0)))), (q_284, .inl (g_285, 1010, .inl (fun _ => 0)))] := hD
  have hK : va_K (dC, dI) cls [(g_2, .long), (g_224, .int), (g_281, .int), (g_283, .long), (g_285, .int)] s := hK
  refine W.widen (k := 5) (n := 1689) (by decide) (by decide) ?_
  refine va_putF (D := (dC, dI)) (ci := 4) (v := .ref q_284) (ty := .array .int) (C := "SieveDeskModel") (T := F_M) (N := 19) hx hb ht i_M ty_M ty_M_ok n_M hown hK hP hD hS 0 rfl rfl 9 (by decide) (ht _ k_636) (fun _ h9 => h9) rfl hin rfl (ty_M_ok 9 (by decide)) rfl rfl (Nat.le_of_ble_eq_true rfl) d_M_init_1658 (fun H locs hP hD hS => ?_)
  have hP : va_P (dC, dI) cls [(o, .inr (4, [.ref q_1, .ref q_223, .ref q_280, .int 0, .int 0, .int 0, .int 0, .int 0, .ref q_282, .ref q_284, .int 0, .int 0, .int 0, .int 0, .int 0, .int 0, .int 0, .int 0, .null])), (q_1, .inl (g_2, 220, .inr (.inl f_222))), (q_223, .inl (g_224, 55, .inl f_279)), (q_280, .inl (g_281, 400, .inl (fun _ => 0))), (q_282, .inl (g_283, 4, .inr (.inl (fun _ => 0)))), (q_284, .inl (g_285, 1010, .inl (fun _ => 0)))] H := hP
  have hD : va_D A [(o, .inr (4, [.ref q_1, .ref q_223, .ref q_280, .int 0, .int 0, .int 0, .int 0, .int 0, .ref q_282, .ref q_284, .int 0, .int 0, .int 0, .int 0, .int 0, .int 0, .int 0, .int 0, .null])), (q_1, .inl (g_2, 220, .inr (.inl f_222))), (q_223, .inl (g_224, 55, .inl f_279)), (q_280, .inl (g_281, 400, .inl (fun _ => 0))), (q_282, .inl (g_283, 4, .inr (.inl (fun _ => 0)))), (q_284, .inl (g_285, 1010, .inl (fun _ => 0)))] := hD
  refine lv_aload_n hx hb d_M_init_1661 rfl (lv_at hl 0 rfl) ?_
  refine lv_iconst (v := (-1)) hx hb d_M_init_1662 (by decide) ?_
  refine va_put (D := (dC, dI)) (ci := 4) (v := .int (-1)) (ty := .int) (C := "SieveDeskModel") (T := F_M) (N := 19) hx hb ht i_M ty_M ty_M_ok n_M hown hK hP hD hS 0 rfl rfl 10 (by decide) (ht _ k_637) (fun _ h9 => h9) rfl (ty_M_ok 10 (by decide)) rfl rfl (Nat.le_of_ble_eq_true rfl) d_M_init_1663 (fun H locs hP hD hS => ?_)
  have hP : va_P (dC, dI) cls [(o, .inr (4, [.ref q_1, .ref q_223, .ref q_280, .int 0, .int 0, .int 0, .int 0, .int 0, .ref q_282, .ref q_284, .int (-1), .int 0, .int 0, .int 0, .int 0, .int 0, .int 0, .int 0, .null])), (q_1, .inl (g_2, 220, .inr (.inl f_222))), (q_223, .inl (g_224, 55, .inl f_279)), (q_280, .inl (g_281, 400, .inl (fun _ => 0))), (q_282, .inl (g_283, 4, .inr (.inl (fun _ => 0)))), (q_284, .inl (g_285, 1010, .inl (fun _ => 0)))] H := hP
  have hD : va_D A [(o, .inr (4, [.ref q_1, .ref q_223, .ref q_280, .int 0, .int 0, .int 0, .int 0, .int 0, .ref q_282, .ref q_284, .int (-1), .int 0, .int 0, .int 0, .int 0, .int 0, .int 0, .int 0, .null])), (q_1, .inl (g_2, 220, .inr (.inl f_222))), (q_223, .inl (g_224, 55, .inl f_279)), (q_280, .inl (g_281, 400, .inl (fun _ => 0))), (q_282, .inl (g_283, 4, .inr (.inl (fun _ => 0)))), (q_284, .inl (g_285, 1010, .inl (fun _ => 0)))] := hD
  refine lv_aload_n hx hb d_M_init_1666 rfl (lv_at hl 0 rfl) ?_
  refine lv_bipush (v := 80) hx hb d_M_init_1667 (by decide) ?_
  refine va_newa (atype := .int) (ty := .int) (N' := 80) (a0 := (80, .inl (fun _ => 0))) hx hb (ht _ k_118) rfl hK hP hD hS hA (fun _ => rfl) (by decide) (by decide) (by decide) (Nat.le_of_ble_eq_true rfl) (Nat.le_of_ble_eq_true rfl) d_M_init_1669 (fun q_286 g_287 H hK hP hD hS => ?_)
  have hP : va_P (dC, dI) cls [(o, .inr (4, [.ref q_1, .ref q_223, .ref q_280, .int 0, .int 0, .int 0, .int 0, .int 0, .ref q_282, .ref q_284, .int (-1), .int 0, .int 0, .int 0, .int 0, .int 0, .int 0, .int 0, .null])), (q_1, .inl (g_2, 220, .inr (.inl f_222))), (q_223, .inl (g_224, 55, .inl f_279)), (q_280, .inl (g_281, 400, .inl (fun _ => 0))), (q_282, .inl (g_283, 4, .inr (.inl (fun _ => 0)))), (q_284, .inl (g_285, 1010, .inl (fun _ => 0))), (q_286, .inl (g_287, 80, .inl (fun _ => 0)))] H := hP
  have hD : va_D A [(o, .inr (4, [.ref q_1, .ref q_223, .ref q_280, .int 0, .int 0, .int 0, .int 0, .int 0, .ref q_282, .ref q_284, .int (-1), .int 0, .int 0, .int 0, .int 0, .int 0, .int 0, .int 0, .null])), (q_1, .inl (g_2, 220, .inr (.inl f_222))), (q_223, .inl (g_224, 55, .inl f_279)), (q_280, .inl (g_281, 400, .inl (fun _ => 0))), (q_282, .inl (g_283, 4, .inr (.inl (fun _ => 0)))), (q_284, .inl (g_285, 1010, .inl (fun _ => 0))), (q_286, .inl (g_287, 80, .inl (fun _ => 0)))] := hD
  have hK : va_K (dC, dI) cls [(g_2, .long), (g_224, .int), (g_281, .int), (g_283, .long), (g_285, .int), (g_287, .int)] s := hK
  refine W.widen (k := 6) (n := 1769) (by decide) (by decide) ?_
  refine va_putF (D := (dC, dI)) (ci := 4) (v := .ref q_286) (ty := .array .int) (C := "SieveDeskModel") (T := F_M) (N := 19) hx hb ht i_M ty_M ty_M_ok n_M hown hK hP hD hS 0 rfl rfl 18 (by decide) (ht _ k_645) (fun _ h9 => h9) rfl hin rfl (ty_M_ok 18 (by decide)) rfl rfl (Nat.le_of_ble_eq_true rfl) d_M_init_1671 (fun H locs hP hD hS => ?_)
  have hP : va_P (dC, dI) cls [(o, .inr (4, [.ref q_1, .ref q_223, .ref q_280, .int 0, .int 0, .int 0, .int 0, .int 0, .ref q_282, .ref q_284, .int (-1), .int 0, .int 0, .int 0, .int 0, .int 0, .int 0, .int 0, .ref q_286])), (q_1, .inl (g_2, 220, .inr (.inl f_222))), (q_223, .inl (g_224, 55, .inl f_279)), (q_280, .inl (g_281, 400, .inl (fun _ => 0))), (q_282, .inl (g_283, 4, .inr (.inl (fun _ => 0)))), (q_284, .inl (g_285, 1010, .inl (fun _ => 0))), (q_286, .inl (g_287, 80, .inl (fun _ => 0)))] H := hP
  have hD : va_D A [(o, .inr (4, [.ref q_1, .ref q_223, .ref q_280, .int 0, .int 0, .int 0, .int 0, .int 0, .ref q_282, .ref q_284, .int (-1), .int 0, .int 0, .int 0, .int 0, .int 0, .int 0, .int 0, .ref q_286])), (q_1, .inl (g_2, 220, .inr (.inl f_222))), (q_223, .inl (g_224, 55, .inl f_279)), (q_280, .inl (g_281, 400, .inl (fun _ => 0))), (q_282, .inl (g_283, 4, .inr (.inl (fun _ => 0)))), (q_284, .inl (g_285, 1010, .inl (fun _ => 0))), (q_286, .inl (g_287, 80, .inl (fun _ => 0)))] := hD
  exact W.vret hx hb hr (fun t het hW => ⟨⟨(((fun i => match i with | 0 => o | 1 => q_1 | 2 => q_223 | 3 => q_280 | 4 => q_282 | 5 => q_284 | 6 => q_286 | _ => 0), (fun i => match i with | 0 => g_2 | 1 => g_224 | 2 => g_281 | 3 => g_283 | 4 => g_285 | _ => g_287)), (f_222, f_279)), rfl, rfl, by rw [het]; exact hP, va_K.moved hW.alike hK, hD⟩, hS.F het⟩) hS.2.2 d_M_init_1674
end
section
theorem d_JL_canEncode_0 : decode b_JL_canEncode 0 = .ok (.iload_n 0, 1) := by decide +kernel
theorem d_JL_canEncode_1 : decode b_JL_canEncode 1 = .ok (.ifCond .lt 14, 3) := by decide +kernel
theorem d_JL_canEncode_4 : decode b_JL_canEncode 4 = .ok (.iload_n 0, 1) := by decide +kernel
theorem d_JL_canEncode_5 : decode b_JL_canEncode 5 = .ok (.sipush 255, 3) := by decide +kernel
theorem d_JL_canEncode_8 : decode b_JL_canEncode 8 = .ok (.if_icmp .gt 7, 3) := by decide +kernel
theorem d_JL_canEncode_11 : decode b_JL_canEncode 11 = .ok (.iconst 1, 1) := by decide +kernel
theorem d_JL_canEncode_12 : decode b_JL_canEncode 12 = .ok (.goto 4, 3) := by decide +kernel
theorem d_JL_canEncode_15 : decode b_JL_canEncode 15 = .ok (.iconst 0, 1) := by decide +kernel
theorem d_JL_canEncode_16 : decode b_JL_canEncode 16 = .ok (.ireturn, 1) := by decide +kernel
theorem d_JL_charAt_0 : decode b_JL_charAt 0 = .ok (.iload_n 1, 1) := by decide +kernel
theorem d_JL_charAt_1 : decode b_JL_charAt 1 = .ok (.aload_n 0, 1) := by decide +kernel
theorem d_JL_charAt_2 : decode b_JL_charAt 2 = .ok (.arraylength, 1) := by decide +kernel
theorem d_JL_charAt_3 : decode b_JL_charAt 3 = .ok (.invokestatic 9, 3) := by decide +kernel
theorem d_JL_charAt_6 : decode b_JL_charAt 6 = .ok (.aload_n 0, 1) := by decide +kernel
theorem d_JL_charAt_7 : decode b_JL_charAt 7 = .ok (.iload_n 1, 1) := by decide +kernel
theorem d_JL_charAt_8 : decode b_JL_charAt 8 = .ok (.baload, 1) := by decide +kernel
theorem d_JL_charAt_9 : decode b_JL_charAt 9 = .ok (.sipush 255, 3) := by decide +kernel
theorem d_JL_charAt_12 : decode b_JL_charAt 12 = .ok (.iand, 1) := by decide +kernel
theorem d_JL_charAt_13 : decode b_JL_charAt 13 = .ok (.i2c, 1) := by decide +kernel
theorem d_JL_charAt_14 : decode b_JL_charAt 14 = .ok (.ireturn, 1) := by decide +kernel
theorem d_JL_indexOf_0 : decode b_JL_indexOf 0 = .ok (.iload_n 1, 1) := by decide +kernel
theorem d_JL_indexOf_1 : decode b_JL_indexOf 1 = .ok (.invokestatic 88, 3) := by decide +kernel
theorem d_JL_indexOf_4 : decode b_JL_indexOf 4 = .ok (.ifCond .ne 5, 3) := by decide +kernel
theorem d_JL_indexOf_7 : decode b_JL_indexOf 7 = .ok (.iconst (-1), 1) := by decide +kernel
theorem d_JL_indexOf_8 : decode b_JL_indexOf 8 = .ok (.ireturn, 1) := by decide +kernel
theorem d_JL_indexOf_9 : decode b_JL_indexOf 9 = .ok (.iload_n 2, 1) := by decide +kernel
theorem d_JL_indexOf_10 : decode b_JL_indexOf 10 = .ok (.iconst 0, 1) := by decide +kernel
theorem d_JL_indexOf_11 : decode b_JL_indexOf 11 = .ok (.invokestatic 92, 3) := by decide +kernel
theorem d_JL_indexOf_14 : decode b_JL_indexOf 14 = .ok (.istore_n 2, 1) := by decide +kernel
theorem d_JL_indexOf_15 : decode b_JL_indexOf 15 = .ok (.iload_n 3, 1) := by decide +kernel
theorem d_JL_indexOf_16 : decode b_JL_indexOf 16 = .ok (.aload_n 0, 1) := by decide +kernel
theorem d_JL_indexOf_17 : decode b_JL_indexOf 17 = .ok (.arraylength, 1) := by decide +kernel
theorem d_JL_indexOf_18 : decode b_JL_indexOf 18 = .ok (.invokestatic 38, 3) := by decide +kernel
theorem d_JL_indexOf_21 : decode b_JL_indexOf 21 = .ok (.istore_n 3, 1) := by decide +kernel
theorem d_JL_indexOf_22 : decode b_JL_indexOf 22 = .ok (.iload_n 2, 1) := by decide +kernel
theorem d_JL_indexOf_23 : decode b_JL_indexOf 23 = .ok (.iload_n 3, 1) := by decide +kernel
theorem d_JL_indexOf_24 : decode b_JL_indexOf 24 = .ok (.if_icmp .lt 5, 3) := by decide +kernel
theorem d_JL_indexOf_27 : decode b_JL_indexOf 27 = .ok (.iconst (-1), 1) := by decide +kernel
theorem d_JL_indexOf_28 : decode b_JL_indexOf 28 = .ok (.ireturn, 1) := by decide +kernel
theorem d_JL_indexOf_29 : decode b_JL_indexOf 29 = .ok (.aload_n 0, 1) := by decide +kernel
theorem d_JL_indexOf_30 : decode b_JL_indexOf 30 = .ok (.iload_n 1, 1) := by decide +kernel
theorem d_JL_indexOf_31 : decode b_JL_indexOf 31 = .ok (.iload_n 2, 1) := by decide +kernel
theorem d_JL_indexOf_32 : decode b_JL_indexOf 32 = .ok (.iload_n 3, 1) := by decide +kernel
theorem d_JL_indexOf_33 : decode b_JL_indexOf 33 = .ok (.invokestatic 95, 3) := by decide +kernel
theorem d_JL_indexOf_36 : decode b_JL_indexOf 36 = .ok (.ireturn, 1) := by decide +kernel
theorem d_JL_indexOfChar_0 : decode b_JL_indexOfChar 0 = .ok (.iload_n 1, 1) := by decide +kernel
theorem d_JL_indexOfChar_1 : decode b_JL_indexOfChar 1 = .ok (.i2b, 1) := by decide +kernel
theorem d_JL_indexOfChar_2 : decode b_JL_indexOfChar 2 = .ok (.istore 4, 2) := by decide +kernel
theorem d_JL_indexOfChar_4 : decode b_JL_indexOfChar 4 = .ok (.iload_n 2, 1) := by decide +kernel
theorem d_JL_indexOfChar_5 : decode b_JL_indexOfChar 5 = .ok (.istore 5, 2) := by decide +kernel
theorem d_JL_indexOfChar_7 : decode b_JL_indexOfChar 7 = .ok (.iload 5, 2) := by decide +kernel
theorem d_JL_indexOfChar_9 : decode b_JL_indexOfChar 9 = .ok (.iload_n 3, 1) := by decide +kernel
theorem d_JL_indexOfChar_10 : decode b_JL_indexOfChar 10 = .ok (.if_icmp .ge 21, 3) := by decide +kernel
theorem d_JL_indexOfChar_13 : decode b_JL_indexOfChar 13 = .ok (.aload_n 0, 1) := by decide +kernel
theorem d_JL_indexOfChar_14 : decode b_JL_indexOfChar 14 = .ok (.iload 5, 2) := by decide +kernel
theorem d_JL_indexOfChar_16 : decode b_JL_indexOfChar 16 = .ok (.baload, 1) := by decide +kernel
theorem d_JL_indexOfChar_17 : decode b_JL_indexOfChar 17 = .ok (.iload 4, 2) := by decide +kernel
theorem d_JL_indexOfChar_19 : decode b_JL_indexOfChar 19 = .ok (.if_icmp .ne 6, 3) := by decide +kernel
theorem d_JL_indexOfChar_22 : decode b_JL_indexOfChar 22 = .ok (.iload 5, 2) := by decide +kernel
theorem d_JL_indexOfChar_24 : decode b_JL_indexOfChar 24 = .ok (.ireturn, 1) := by decide +kernel
theorem d_JL_indexOfChar_25 : decode b_JL_indexOfChar 25 = .ok (.iinc 5 1, 3) := by decide +kernel
theorem d_JL_indexOfChar_28 : decode b_JL_indexOfChar 28 = .ok (.goto (-21), 3) := by decide +kernel
theorem d_JL_indexOfChar_31 : decode b_JL_indexOfChar 31 = .ok (.iconst (-1), 1) := by decide +kernel
theorem d_JL_indexOfChar_32 : decode b_JL_indexOfChar 32 = .ok (.ireturn, 1) := by decide +kernel
theorem d_JM_max_0 : decode b_JM_max 0 = .ok (.iload_n 0, 1) := by decide +kernel
theorem d_JM_max_1 : decode b_JM_max 1 = .ok (.iload_n 1, 1) := by decide +kernel
theorem d_JM_max_2 : decode b_JM_max 2 = .ok (.if_icmp .lt 7, 3) := by decide +kernel
theorem d_JM_max_5 : decode b_JM_max 5 = .ok (.iload_n 0, 1) := by decide +kernel
theorem d_JM_max_6 : decode b_JM_max 6 = .ok (.goto 4, 3) := by decide +kernel
theorem d_JM_max_9 : decode b_JM_max 9 = .ok (.iload_n 1, 1) := by decide +kernel
theorem d_JM_max_10 : decode b_JM_max 10 = .ok (.ireturn, 1) := by decide +kernel
theorem d_JM_min0_0 : decode b_JM_min0 0 = .ok (.iload_n 0, 1) := by decide +kernel
theorem d_JM_min0_1 : decode b_JM_min0 1 = .ok (.iload_n 1, 1) := by decide +kernel
theorem d_JM_min0_2 : decode b_JM_min0 2 = .ok (.if_icmp .gt 7, 3) := by decide +kernel
theorem d_JM_min0_5 : decode b_JM_min0 5 = .ok (.iload_n 0, 1) := by decide +kernel
theorem d_JM_min0_6 : decode b_JM_min0 6 = .ok (.goto 4, 3) := by decide +kernel
theorem d_JM_min0_9 : decode b_JM_min0 9 = .ok (.iload_n 1, 1) := by decide +kernel
theorem d_JM_min0_10 : decode b_JM_min0 10 = .ok (.ireturn, 1) := by decide +kernel
theorem d_JM_min1_0 : decode b_JM_min1 0 = .ok (.lload_n 0, 1) := by decide +kernel
theorem d_JM_min1_1 : decode b_JM_min1 1 = .ok (.lload_n 2, 1) := by decide +kernel
theorem d_JM_min1_2 : decode b_JM_min1 2 = .ok (.lcmp, 1) := by decide +kernel
theorem d_JM_min1_3 : decode b_JM_min1 3 = .ok (.ifCond .gt 7, 3) := by decide +kernel
theorem d_JM_min1_6 : decode b_JM_min1 6 = .ok (.lload_n 0, 1) := by decide +kernel
theorem d_JM_min1_7 : decode b_JM_min1 7 = .ok (.goto 4, 3) := by decide +kernel
theorem d_JM_min1_10 : decode b_JM_min1 10 = .ok (.lload_n 2, 1) := by decide +kernel
theorem d_JM_min1_11 : decode b_JM_min1 11 = .ok (.lreturn, 1) := by decide +kernel
theorem d_JP_checkIndex_0 : decode b_JP_checkIndex 0 = .ok (.iload_n 0, 1) := by decide +kernel
theorem d_JP_checkIndex_1 : decode b_JP_checkIndex 1 = .ok (.ifCond .lt 8, 3) := by decide +kernel
theorem d_JP_checkIndex_4 : decode b_JP_checkIndex 4 = .ok (.iload_n 0, 1) := by decide +kernel
theorem d_JP_checkIndex_5 : decode b_JP_checkIndex 5 = .ok (.iload_n 1, 1) := by decide +kernel
theorem d_JP_checkIndex_6 : decode b_JP_checkIndex 6 = .ok (.if_icmp .lt 10, 3) := by decide +kernel
theorem d_JP_checkIndex_9 : decode b_JP_checkIndex 9 = .ok (.aload_n 2, 1) := by decide +kernel
theorem d_JP_checkIndex_10 : decode b_JP_checkIndex 10 = .ok (.iload_n 0, 1) := by decide +kernel
theorem d_JP_checkIndex_11 : decode b_JP_checkIndex 11 = .ok (.iload_n 1, 1) := by decide +kernel
theorem d_JP_checkIndex_12 : decode b_JP_checkIndex 12 = .ok (.invokestatic 95, 3) := by decide +kernel
theorem d_JP_checkIndex_15 : decode b_JP_checkIndex 15 = .ok (.athrow, 1) := by decide +kernel
theorem d_JP_checkIndex_16 : decode b_JP_checkIndex 16 = .ok (.iload_n 0, 1) := by decide +kernel
theorem d_JP_checkIndex_17 : decode b_JP_checkIndex 17 = .ok (.ireturn, 1) := by decide +kernel
theorem d_JS_charAt_0 : decode b_JS_charAt 0 = .ok (.aload_n 0, 1) := by decide +kernel
theorem d_JS_charAt_1 : decode b_JS_charAt 1 = .ok (.invokevirtual 492, 3) := by decide +kernel
theorem d_JS_charAt_4 : decode b_JS_charAt 4 = .ok (.ifCond .eq 12, 3) := by decide +kernel
theorem d_JS_charAt_7 : decode b_JS_charAt 7 = .ok (.aload_n 0, 1) := by decide +kernel
theorem d_JS_charAt_8 : decode b_JS_charAt 8 = .ok (.getfield 9, 3) := by decide +kernel
theorem d_JS_charAt_11 : decode b_JS_charAt 11 = .ok (.iload_n 1, 1) := by decide +kernel
theorem d_JS_charAt_12 : decode b_JS_charAt 12 = .ok (.invokestatic 495, 3) := by decide +kernel
theorem d_JS_charAt_15 : decode b_JS_charAt 15 = .ok (.ireturn, 1) := by decide +kernel
theorem d_JS_charAt_16 : decode b_JS_charAt 16 = .ok (.aload_n 0, 1) := by decide +kernel
theorem d_JS_charAt_17 : decode b_JS_charAt 17 = .ok (.getfield 9, 3) := by decide +kernel
theorem d_JS_charAt_20 : decode b_JS_charAt 20 = .ok (.iload_n 1, 1) := by decide +kernel
theorem d_JS_charAt_21 : decode b_JS_charAt 21 = .ok (.invokestatic 498, 3) := by decide +kernel
theorem d_JS_charAt_24 : decode b_JS_charAt 24 = .ok (.ireturn, 1) := by decide +kernel
theorem d_JS_checkIndex_0 : decode b_JS_checkIndex 0 = .ok (.iload_n 0, 1) := by decide +kernel
theorem d_JS_checkIndex_1 : decode b_JS_checkIndex 1 = .ok (.iload_n 1, 1) := by decide +kernel
theorem d_JS_checkIndex_2 : decode b_JS_checkIndex 2 = .ok (.getstatic 1053, 3) := by decide +kernel
theorem d_JS_checkIndex_5 : decode b_JS_checkIndex 5 = .ok (.invokestatic 1059, 3) := by decide +kernel
theorem d_JS_checkIndex_8 : decode b_JS_checkIndex 8 = .ok (.pop, 1) := by decide +kernel
theorem d_JS_checkIndex_9 : decode b_JS_checkIndex 9 = .ok (.return_, 1) := by decide +kernel
theorem d_JS_coder_0 : decode b_JS_coder 0 = .ok (.getstatic 38, 3) := by decide +kernel
theorem d_JS_coder_3 : decode b_JS_coder 3 = .ok (.ifCond .eq 10, 3) := by decide +kernel
theorem d_JS_coder_6 : decode b_JS_coder 6 = .ok (.aload_n 0, 1) := by decide +kernel
theorem d_JS_coder_7 : decode b_JS_coder 7 = .ok (.getfield 15, 3) := by decide +kernel
theorem d_JS_coder_10 : decode b_JS_coder 10 = .ok (.goto 4, 3) := by decide +kernel
theorem d_JS_coder_13 : decode b_JS_coder 13 = .ok (.iconst 1, 1) := by decide +kernel
theorem d_JS_coder_14 : decode b_JS_coder 14 = .ok (.ireturn, 1) := by decide +kernel
theorem d_JS_indexOf0_0 : decode b_JS_indexOf0 0 = .ok (.aload_n 0, 1) := by decide +kernel
theorem d_JS_indexOf0_1 : decode b_JS_indexOf0 1 = .ok (.iload_n 1, 1) := by decide +kernel
theorem d_JS_indexOf0_2 : decode b_JS_indexOf0 2 = .ok (.iconst 0, 1) := by decide +kernel
theorem d_JS_indexOf0_3 : decode b_JS_indexOf0 3 = .ok (.invokevirtual 633, 3) := by decide +kernel
theorem d_JS_indexOf0_6 : decode b_JS_indexOf0 6 = .ok (.ireturn, 1) := by decide +kernel
theorem d_JS_indexOf1_0 : decode b_JS_indexOf1 0 = .ok (.aload_n 0, 1) := by decide +kernel
theorem d_JS_indexOf1_1 : decode b_JS_indexOf1 1 = .ok (.invokevirtual 492, 3) := by decide +kernel
theorem d_JS_indexOf1_4 : decode b_JS_indexOf1 4 = .ok (.ifCond .eq 19, 3) := by decide +kernel
theorem d_JS_indexOf1_7 : decode b_JS_indexOf1 7 = .ok (.aload_n 0, 1) := by decide +kernel
theorem d_JS_indexOf1_8 : decode b_JS_indexOf1 8 = .ok (.getfield 9, 3) := by decide +kernel
theorem d_JS_indexOf1_11 : decode b_JS_indexOf1 11 = .ok (.iload_n 1, 1) := by decide +kernel
theorem d_JS_indexOf1_12 : decode b_JS_indexOf1 12 = .ok (.iload_n 2, 1) := by decide +kernel
theorem d_JS_indexOf1_13 : decode b_JS_indexOf1 13 = .ok (.aload_n 0, 1) := by decide +kernel
theorem d_JS_indexOf1_14 : decode b_JS_indexOf1 14 = .ok (.invokevirtual 505, 3) := by decide +kernel
theorem d_JS_indexOf1_17 : decode b_JS_indexOf1 17 = .ok (.invokestatic 637, 3) := by decide +kernel
theorem d_JS_indexOf1_20 : decode b_JS_indexOf1 20 = .ok (.goto 16, 3) := by decide +kernel
theorem d_JS_indexOf1_23 : decode b_JS_indexOf1 23 = .ok (.aload_n 0, 1) := by decide +kernel
theorem d_JS_indexOf1_24 : decode b_JS_indexOf1 24 = .ok (.getfield 9, 3) := by decide +kernel
theorem d_JS_indexOf1_27 : decode b_JS_indexOf1 27 = .ok (.iload_n 1, 1) := by decide +kernel
theorem d_JS_indexOf1_28 : decode b_JS_indexOf1 28 = .ok (.iload_n 2, 1) := by decide +kernel
theorem d_JS_indexOf1_29 : decode b_JS_indexOf1 29 = .ok (.aload_n 0, 1) := by decide +kernel
theorem d_JS_indexOf1_30 : decode b_JS_indexOf1 30 = .ok (.invokevirtual 505, 3) := by decide +kernel
theorem d_JS_indexOf1_33 : decode b_JS_indexOf1 33 = .ok (.invokestatic 640, 3) := by decide +kernel
theorem d_JS_indexOf1_36 : decode b_JS_indexOf1 36 = .ok (.ireturn, 1) := by decide +kernel
theorem d_JS_isLatin1_0 : decode b_JS_isLatin1 0 = .ok (.getstatic 38, 3) := by decide +kernel
theorem d_JS_isLatin1_3 : decode b_JS_isLatin1 3 = .ok (.ifCond .eq 14, 3) := by decide +kernel
theorem d_JS_isLatin1_6 : decode b_JS_isLatin1 6 = .ok (.aload_n 0, 1) := by decide +kernel
theorem d_JS_isLatin1_7 : decode b_JS_isLatin1 7 = .ok (.getfield 15, 3) := by decide +kernel
theorem d_JS_isLatin1_10 : decode b_JS_isLatin1 10 = .ok (.ifCond .ne 7, 3) := by decide +kernel
theorem d_JS_isLatin1_13 : decode b_JS_isLatin1 13 = .ok (.iconst 1, 1) := by decide +kernel
theorem d_JS_isLatin1_14 : decode b_JS_isLatin1 14 = .ok (.goto 4, 3) := by decide +kernel
theorem d_JS_isLatin1_17 : decode b_JS_isLatin1 17 = .ok (.iconst 0, 1) := by decide +kernel
theorem d_JS_isLatin1_18 : decode b_JS_isLatin1 18 = .ok (.ireturn, 1) := by decide +kernel
theorem d_JS_length_0 : decode b_JS_length 0 = .ok (.aload_n 0, 1) := by decide +kernel
theorem d_JS_length_1 : decode b_JS_length 1 = .ok (.getfield 9, 3) := by decide +kernel
theorem d_JS_length_4 : decode b_JS_length 4 = .ok (.arraylength, 1) := by decide +kernel
theorem d_JS_length_5 : decode b_JS_length 5 = .ok (.aload_n 0, 1) := by decide +kernel
theorem d_JS_length_6 : decode b_JS_length 6 = .ok (.invokevirtual 335, 3) := by decide +kernel
theorem d_JS_length_9 : decode b_JS_length 9 = .ok (.ishr, 1) := by decide +kernel
theorem d_JS_length_10 : decode b_JS_length 10 = .ok (.ireturn, 1) := by decide +kernel
end
section
theorem d_M_absence_0 : decode b_M_absence 0 = .ok (.iconst 0, 1) := by decide +kernel
theorem d_M_absence_1 : decode b_M_absence 1 = .ok (.istore_n 1, 1) := by decide +kernel
theorem d_M_absence_2 : decode b_M_absence 2 = .ok (.aload_n 0, 1) := by decide +kernel
theorem d_M_absence_3 : decode b_M_absence 3 = .ok (.iconst 2, 1) := by decide +kernel
theorem d_M_absence_4 : decode b_M_absence 4 = .ok (.invokevirtual 246, 3) := by decide +kernel
theorem d_M_absence_7 : decode b_M_absence 7 = .ok (.ifCond .eq 82, 3) := by decide +kernel
theorem d_M_absence_10 : decode b_M_absence 10 = .ok (.aload_n 0, 1) := by decide +kernel
theorem d_M_absence_11 : decode b_M_absence 11 = .ok (.bipush 27, 2) := by decide +kernel
theorem d_M_absence_13 : decode b_M_absence 13 = .ok (.iconst 4, 1) := by decide +kernel
theorem d_M_absence_14 : decode b_M_absence 14 = .ok (.invokevirtual 181, 3) := by decide +kernel
theorem d_M_absence_17 : decode b_M_absence 17 = .ok (.istore_n 2, 1) := by decide +kernel
theorem d_M_absence_18 : decode b_M_absence 18 = .ok (.iload_n 2, 1) := by decide +kernel
theorem d_M_absence_19 : decode b_M_absence 19 = .ok (.ifCond .ge 7, 3) := by decide +kernel
theorem d_M_absence_22 : decode b_M_absence 22 = .ok (.iconst 0, 1) := by decide +kernel
theorem d_M_absence_23 : decode b_M_absence 23 = .ok (.goto 9, 3) := by decide +kernel
theorem d_M_absence_26 : decode b_M_absence 26 = .ok (.iconst 1, 1) := by decide +kernel
theorem d_M_absence_27 : decode b_M_absence 27 = .ok (.iload_n 2, 1) := by decide +kernel
theorem d_M_absence_28 : decode b_M_absence 28 = .ok (.bipush 27, 2) := by decide +kernel
theorem d_M_absence_30 : decode b_M_absence 30 = .ok (.isub, 1) := by decide +kernel
theorem d_M_absence_31 : decode b_M_absence 31 = .ok (.ishl, 1) := by decide +kernel
theorem d_M_absence_32 : decode b_M_absence 32 = .ok (.istore_n 3, 1) := by decide +kernel
theorem d_M_absence_33 : decode b_M_absence 33 = .ok (.iload_n 2, 1) := by decide +kernel
theorem d_M_absence_34 : decode b_M_absence 34 = .ok (.ifCond .lt 9, 3) := by decide +kernel
theorem d_M_absence_37 : decode b_M_absence 37 = .ok (.iload_n 1, 1) := by decide +kernel
theorem d_M_absence_38 : decode b_M_absence 38 = .ok (.iload_n 3, 1) := by decide +kernel
theorem d_M_absence_39 : decode b_M_absence 39 = .ok (.iand, 1) := by decide +kernel
theorem d_M_absence_40 : decode b_M_absence 40 = .ok (.ifCond .eq 7, 3) := by decide +kernel
theorem d_M_absence_43 : decode b_M_absence 43 = .ok (.aload_n 0, 1) := by decide +kernel
theorem d_M_absence_44 : decode b_M_absence 44 = .ok (.invokevirtual 202, 3) := by decide +kernel
theorem d_M_absence_47 : decode b_M_absence 47 = .ok (.iload_n 1, 1) := by decide +kernel
theorem d_M_absence_48 : decode b_M_absence 48 = .ok (.iload_n 3, 1) := by decide +kernel
theorem d_M_absence_49 : decode b_M_absence 49 = .ok (.ior, 1) := by decide +kernel
theorem d_M_absence_50 : decode b_M_absence 50 = .ok (.istore_n 1, 1) := by decide +kernel
theorem d_M_absence_51 : decode b_M_absence 51 = .ok (.aload_n 0, 1) := by decide +kernel
theorem d_M_absence_52 : decode b_M_absence 52 = .ok (.invokevirtual 252, 3) := by decide +kernel
theorem d_M_absence_55 : decode b_M_absence 55 = .ok (.iload_n 2, 1) := by decide +kernel
theorem d_M_absence_56 : decode b_M_absence 56 = .ok (.bipush 27, 2) := by decide +kernel
theorem d_M_absence_58 : decode b_M_absence 58 = .ok (.if_icmp .ne 10, 3) := by decide +kernel
theorem d_M_absence_61 : decode b_M_absence 61 = .ok (.aload_n 0, 1) := by decide +kernel
theorem d_M_absence_62 : decode b_M_absence 62 = .ok (.invokevirtual 308, 3) := by decide +kernel
theorem d_M_absence_65 : decode b_M_absence 65 = .ok (.goto 21, 3) := by decide +kernel
theorem d_M_absence_68 : decode b_M_absence 68 = .ok (.iload_n 2, 1) := by decide +kernel
theorem d_M_absence_69 : decode b_M_absence 69 = .ok (.bipush 29, 2) := by decide +kernel
theorem d_M_absence_71 : decode b_M_absence 71 = .ok (.if_icmp .ne 11, 3) := by decide +kernel
theorem d_M_absence_74 : decode b_M_absence 74 = .ok (.aload_n 0, 1) := by decide +kernel
theorem d_M_absence_75 : decode b_M_absence 75 = .ok (.iconst 0, 1) := by decide +kernel
theorem d_M_absence_76 : decode b_M_absence 76 = .ok (.invokevirtual 294, 3) := by decide +kernel
theorem d_M_absence_79 : decode b_M_absence 79 = .ok (.goto 7, 3) := by decide +kernel
theorem d_M_absence_82 : decode b_M_absence 82 = .ok (.aload_n 0, 1) := by decide +kernel
theorem d_M_absence_83 : decode b_M_absence 83 = .ok (.invokevirtual 291, 3) := by decide +kernel
theorem d_M_absence_86 : decode b_M_absence 86 = .ok (.goto (-84), 3) := by decide +kernel
theorem d_M_absence_89 : decode b_M_absence 89 = .ok (.aload_n 0, 1) := by decide +kernel
theorem d_M_absence_90 : decode b_M_absence 90 = .ok (.invokevirtual 291, 3) := by decide +kernel
theorem d_M_absence_93 : decode b_M_absence 93 = .ok (.return_, 1) := by decide +kernel
theorem d_M_add_0 : decode b_M_add 0 = .ok (.aload_n 0, 1) := by decide +kernel
theorem d_M_add_1 : decode b_M_add 1 = .ok (.getfield 174, 3) := by decide +kernel
theorem d_M_add_4 : decode b_M_add 4 = .ok (.bipush 32, 2) := by decide +kernel
theorem d_M_add_6 : decode b_M_add 6 = .ok (.if_icmp .ge 47, 3) := by decide +kernel
theorem d_M_add_9 : decode b_M_add 9 = .ok (.aload_n 0, 1) := by decide +kernel
theorem d_M_add_10 : decode b_M_add 10 = .ok (.getfield 148, 3) := by decide +kernel
theorem d_M_add_13 : decode b_M_add 13 = .ok (.aload_n 0, 1) := by decide +kernel
theorem d_M_add_14 : decode b_M_add 14 = .ok (.getfield 174, 3) := by decide +kernel
theorem d_M_add_17 : decode b_M_add 17 = .ok (.bipush 8, 2) := by decide +kernel
theorem d_M_add_19 : decode b_M_add 19 = .ok (.idiv, 1) := by decide +kernel
theorem d_M_add_20 : decode b_M_add 20 = .ok (.aload_n 0, 1) := by decide +kernel
theorem d_M_add_21 : decode b_M_add 21 = .ok (.getfield 148, 3) := by decide +kernel
theorem d_M_add_24 : decode b_M_add 24 = .ok (.aload_n 0, 1) := by decide +kernel
theorem d_M_add_25 : decode b_M_add 25 = .ok (.getfield 174, 3) := by decide +kernel
theorem d_M_add_28 : decode b_M_add 28 = .ok (.bipush 8, 2) := by decide +kernel
theorem d_M_add_30 : decode b_M_add 30 = .ok (.idiv, 1) := by decide +kernel
theorem d_M_add_31 : decode b_M_add 31 = .ok (.laload, 1) := by decide +kernel
theorem d_M_add_32 : decode b_M_add 32 = .ok (.iload_n 1, 1) := by decide +kernel
theorem d_M_add_33 : decode b_M_add 33 = .ok (.invokestatic 177, 3) := by decide +kernel
theorem d_M_add_36 : decode b_M_add 36 = .ok (.i2l, 1) := by decide +kernel
theorem d_M_add_37 : decode b_M_add 37 = .ok (.bipush 56, 2) := by decide +kernel
theorem d_M_add_39 : decode b_M_add 39 = .ok (.bipush 8, 2) := by decide +kernel
theorem d_M_add_41 : decode b_M_add 41 = .ok (.aload_n 0, 1) := by decide +kernel
theorem d_M_add_42 : decode b_M_add 42 = .ok (.getfield 174, 3) := by decide +kernel
theorem d_M_add_45 : decode b_M_add 45 = .ok (.bipush 8, 2) := by decide +kernel
theorem d_M_add_47 : decode b_M_add 47 = .ok (.irem, 1) := by decide +kernel
theorem d_M_add_48 : decode b_M_add 48 = .ok (.imul, 1) := by decide +kernel
theorem d_M_add_49 : decode b_M_add 49 = .ok (.isub, 1) := by decide +kernel
theorem d_M_add_50 : decode b_M_add 50 = .ok (.lshl, 1) := by decide +kernel
theorem d_M_add_51 : decode b_M_add 51 = .ok (.lor, 1) := by decide +kernel
theorem d_M_add_52 : decode b_M_add 52 = .ok (.lastore, 1) := by decide +kernel
theorem d_M_add_53 : decode b_M_add 53 = .ok (.aload_n 0, 1) := by decide +kernel
theorem d_M_add_54 : decode b_M_add 54 = .ok (.getfield 174, 3) := by decide +kernel
theorem d_M_add_57 : decode b_M_add 57 = .ok (.sipush 1010, 3) := by decide +kernel
theorem d_M_add_60 : decode b_M_add 60 = .ok (.if_icmp .ge 13, 3) := by decide +kernel
theorem d_M_add_63 : decode b_M_add 63 = .ok (.aload_n 0, 1) := by decide +kernel
theorem d_M_add_64 : decode b_M_add 64 = .ok (.getfield 151, 3) := by decide +kernel
theorem d_M_add_67 : decode b_M_add 67 = .ok (.aload_n 0, 1) := by decide +kernel
theorem d_M_add_68 : decode b_M_add 68 = .ok (.getfield 174, 3) := by decide +kernel
theorem d_M_add_71 : decode b_M_add 71 = .ok (.iload_n 1, 1) := by decide +kernel
theorem d_M_add_72 : decode b_M_add 72 = .ok (.iastore, 1) := by decide +kernel
theorem d_M_add_73 : decode b_M_add 73 = .ok (.aload_n 0, 1) := by decide +kernel
theorem d_M_add_74 : decode b_M_add 74 = .ok (.aload_n 0, 1) := by decide +kernel
theorem d_M_add_75 : decode b_M_add 75 = .ok (.getfield 174, 3) := by decide +kernel
theorem d_M_add_78 : decode b_M_add 78 = .ok (.iconst 1, 1) := by decide +kernel
theorem d_M_add_79 : decode b_M_add 79 = .ok (.iadd, 1) := by decide +kernel
theorem d_M_add_80 : decode b_M_add 80 = .ok (.putfield 174, 3) := by decide +kernel
theorem d_M_add_83 : decode b_M_add 83 = .ok (.return_, 1) := by decide +kernel
theorem d_M_begin_0 : decode b_M_begin 0 = .ok (.aload_n 0, 1) := by decide +kernel
theorem d_M_begin_1 : decode b_M_begin 1 = .ok (.iconst 0, 1) := by decide +kernel
theorem d_M_begin_2 : decode b_M_begin 2 = .ok (.putfield 174, 3) := by decide +kernel
theorem d_M_begin_5 : decode b_M_begin 5 = .ok (.iconst 0, 1) := by decide +kernel
theorem d_M_begin_6 : decode b_M_begin 6 = .ok (.istore_n 1, 1) := by decide +kernel
theorem d_M_begin_7 : decode b_M_begin 7 = .ok (.iload_n 1, 1) := by decide +kernel
theorem d_M_begin_8 : decode b_M_begin 8 = .ok (.iconst 4, 1) := by decide +kernel
theorem d_M_begin_9 : decode b_M_begin 9 = .ok (.if_icmp .ge 16, 3) := by decide +kernel
theorem d_M_begin_12 : decode b_M_begin 12 = .ok (.aload_n 0, 1) := by decide +kernel
theorem d_M_begin_13 : decode b_M_begin 13 = .ok (.getfield 148, 3) := by decide +kernel
theorem d_M_begin_16 : decode b_M_begin 16 = .ok (.iload_n 1, 1) := by decide +kernel
theorem d_M_begin_17 : decode b_M_begin 17 = .ok (.lconst 0, 1) := by decide +kernel
theorem d_M_begin_18 : decode b_M_begin 18 = .ok (.lastore, 1) := by decide +kernel
theorem d_M_begin_19 : decode b_M_begin 19 = .ok (.iinc 1 1, 3) := by decide +kernel
theorem d_M_begin_22 : decode b_M_begin 22 = .ok (.goto (-15), 3) := by decide +kernel
theorem d_M_begin_25 : decode b_M_begin 25 = .ok (.return_, 1) := by decide +kernel
theorem d_M_check_0 : decode b_M_check 0 = .ok (.aload_n 0, 1) := by decide +kernel
theorem d_M_check_1 : decode b_M_check 1 = .ok (.iconst (-1), 1) := by decide +kernel
theorem d_M_check_2 : decode b_M_check 2 = .ok (.putfield 154, 3) := by decide +kernel
theorem d_M_check_5 : decode b_M_check 5 = .ok (.aload_n 0, 1) := by decide +kernel
theorem d_M_check_6 : decode b_M_check 6 = .ok (.iconst 0, 1) := by decide +kernel
theorem d_M_check_7 : decode b_M_check 7 = .ok (.putfield 164, 3) := by decide +kernel
theorem d_M_check_10 : decode b_M_check 10 = .ok (.aload_n 0, 1) := by decide +kernel
theorem d_M_check_11 : decode b_M_check 11 = .ok (.iconst 0, 1) := by decide +kernel
theorem d_M_check_12 : decode b_M_check 12 = .ok (.putfield 261, 3) := by decide +kernel
theorem d_M_check_15 : decode b_M_check 15 = .ok (.aload_n 0, 1) := by decide +kernel
theorem d_M_check_16 : decode b_M_check 16 = .ok (.iconst 0, 1) := by decide +kernel
theorem d_M_check_17 : decode b_M_check 17 = .ok (.putfield 264, 3) := by decide +kernel
theorem d_M_check_20 : decode b_M_check 20 = .ok (.aload_n 0, 1) := by decide +kernel
theorem d_M_check_21 : decode b_M_check 21 = .ok (.iconst 0, 1) := by decide +kernel
theorem d_M_check_22 : decode b_M_check 22 = .ok (.putfield 255, 3) := by decide +kernel
theorem d_M_check_25 : decode b_M_check 25 = .ok (.aload_n 0, 1) := by decide +kernel
theorem d_M_check_26 : decode b_M_check 26 = .ok (.iconst 0, 1) := by decide +kernel
theorem d_M_check_27 : decode b_M_check 27 = .ok (.putfield 324, 3) := by decide +kernel
theorem d_M_check_30 : decode b_M_check 30 = .ok (.aload_n 0, 1) := by decide +kernel
theorem d_M_check_31 : decode b_M_check 31 = .ok (.iconst 0, 1) := by decide +kernel
theorem d_M_check_32 : decode b_M_check 32 = .ok (.putfield 311, 3) := by decide +kernel
theorem d_M_check_35 : decode b_M_check 35 = .ok (.aload_n 0, 1) := by decide +kernel
theorem d_M_check_36 : decode b_M_check 36 = .ok (.iconst 0, 1) := by decide +kernel
theorem d_M_check_37 : decode b_M_check 37 = .ok (.putfield 243, 3) := by decide +kernel
theorem d_M_check_40 : decode b_M_check 40 = .ok (.aload_n 0, 1) := by decide +kernel
theorem d_M_check_41 : decode b_M_check 41 = .ok (.invokevirtual 252, 3) := by decide +kernel
theorem d_M_check_44 : decode b_M_check 44 = .ok (.aload_n 0, 1) := by decide +kernel
theorem d_M_check_45 : decode b_M_check 45 = .ok (.iconst 0, 1) := by decide +kernel
theorem d_M_check_46 : decode b_M_check 46 = .ok (.invokevirtual 327, 3) := by decide +kernel
theorem d_M_check_49 : decode b_M_check 49 = .ok (.ifCond .eq 21, 3) := by decide +kernel
theorem d_M_check_52 : decode b_M_check 52 = .ok (.aload_n 0, 1) := by decide +kernel
theorem d_M_check_53 : decode b_M_check 53 = .ok (.invokevirtual 252, 3) := by decide +kernel
theorem d_M_check_56 : decode b_M_check 56 = .ok (.aload_n 0, 1) := by decide +kernel
theorem d_M_check_57 : decode b_M_check 57 = .ok (.iconst 1, 1) := by decide +kernel
theorem d_M_check_58 : decode b_M_check 58 = .ok (.invokevirtual 294, 3) := by decide +kernel
theorem d_M_check_61 : decode b_M_check 61 = .ok (.aload_n 0, 1) := by decide +kernel
theorem d_M_check_62 : decode b_M_check 62 = .ok (.bipush 59, 2) := by decide +kernel
theorem d_M_check_64 : decode b_M_check 64 = .ok (.invokevirtual 273, 3) := by decide +kernel
theorem d_M_check_67 : decode b_M_check 67 = .ok (.goto (-23), 3) := by decide +kernel
theorem d_M_check_70 : decode b_M_check 70 = .ok (.aload_n 0, 1) := by decide +kernel
theorem d_M_check_71 : decode b_M_check 71 = .ok (.iconst 0, 1) := by decide +kernel
theorem d_M_check_72 : decode b_M_check 72 = .ok (.invokevirtual 279, 3) := by decide +kernel
theorem d_M_check_75 : decode b_M_check 75 = .ok (.aload_n 0, 1) := by decide +kernel
theorem d_M_check_76 : decode b_M_check 76 = .ok (.getfield 243, 3) := by decide +kernel
theorem d_M_check_79 : decode b_M_check 79 = .ok (.ifCond .le 29, 3) := by decide +kernel
theorem d_M_check_82 : decode b_M_check 82 = .ok (.aload_n 0, 1) := by decide +kernel
theorem d_M_check_83 : decode b_M_check 83 = .ok (.aload_n 0, 1) := by decide +kernel
theorem d_M_check_84 : decode b_M_check 84 = .ok (.getfield 243, 3) := by decide +kernel
theorem d_M_check_87 : decode b_M_check 87 = .ok (.iconst 1, 1) := by decide +kernel
theorem d_M_check_88 : decode b_M_check 88 = .ok (.isub, 1) := by decide +kernel
theorem d_M_check_89 : decode b_M_check 89 = .ok (.putfield 243, 3) := by decide +kernel
theorem d_M_check_92 : decode b_M_check 92 = .ok (.aload_n 0, 1) := by decide +kernel
theorem d_M_check_93 : decode b_M_check 93 = .ok (.aload_n 0, 1) := by decide +kernel
theorem d_M_check_94 : decode b_M_check 94 = .ok (.getfield 158, 3) := by decide +kernel
theorem d_M_check_97 : decode b_M_check 97 = .ok (.aload_n 0, 1) := by decide +kernel
theorem d_M_check_98 : decode b_M_check 98 = .ok (.getfield 243, 3) := by decide +kernel
theorem d_M_check_101 : decode b_M_check 101 = .ok (.iaload, 1) := by decide +kernel
theorem d_M_check_102 : decode b_M_check 102 = .ok (.invokevirtual 333, 3) := by decide +kernel
theorem d_M_check_105 : decode b_M_check 105 = .ok (.goto (-30), 3) := by decide +kernel
theorem d_M_check_108 : decode b_M_check 108 = .ok (.aload_n 0, 1) := by decide +kernel
theorem d_M_check_109 : decode b_M_check 109 = .ok (.aload_n 0, 1) := by decide +kernel
theorem d_M_check_110 : decode b_M_check 110 = .ok (.getfield 154, 3) := by decide +kernel
theorem d_M_check_113 : decode b_M_check 113 = .ok (.ifCond .ge 7, 3) := by decide +kernel
theorem d_M_check_116 : decode b_M_check 116 = .ok (.iconst 0, 1) := by decide +kernel
theorem d_M_check_117 : decode b_M_check 117 = .ok (.goto 4, 3) := by decide +kernel
theorem d_M_check_120 : decode b_M_check 120 = .ok (.iconst 1, 1) := by decide +kernel
theorem d_M_check_121 : decode b_M_check 121 = .ok (.putfield 336, 3) := by decide +kernel
theorem d_M_check_124 : decode b_M_check 124 = .ok (.iconst 0, 1) := by decide +kernel
theorem d_M_check_125 : decode b_M_check 125 = .ok (.istore_n 1, 1) := by decide +kernel
theorem d_M_check_126 : decode b_M_check 126 = .ok (.iload_n 1, 1) := by decide +kernel
theorem d_M_check_127 : decode b_M_check 127 = .ok (.aload_n 0, 1) := by decide +kernel
theorem d_M_check_128 : decode b_M_check 128 = .ok (.getfield 154, 3) := by decide +kernel
theorem d_M_check_131 : decode b_M_check 131 = .ok (.if_icmp .ge 37, 3) := by decide +kernel
theorem d_M_check_134 : decode b_M_check 134 = .ok (.aload_n 0, 1) := by decide +kernel
theorem d_M_check_135 : decode b_M_check 135 = .ok (.aload_n 0, 1) := by decide +kernel
theorem d_M_check_136 : decode b_M_check 136 = .ok (.getfield 145, 3) := by decide +kernel
theorem d_M_check_139 : decode b_M_check 139 = .ok (.iload_n 1, 1) := by decide +kernel
theorem d_M_check_140 : decode b_M_check 140 = .ok (.iaload, 1) := by decide +kernel
theorem d_M_check_141 : decode b_M_check 141 = .ok (.bipush 10, 2) := by decide +kernel
theorem d_M_check_143 : decode b_M_check 143 = .ok (.if_icmp .ne 12, 3) := by decide +kernel
theorem d_M_check_146 : decode b_M_check 146 = .ok (.aload_n 0, 1) := by decide +kernel
theorem d_M_check_147 : decode b_M_check 147 = .ok (.getfield 336, 3) := by decide +kernel
theorem d_M_check_150 : decode b_M_check 150 = .ok (.iconst 1, 1) := by decide +kernel
theorem d_M_check_151 : decode b_M_check 151 = .ok (.iadd, 1) := by decide +kernel
theorem d_M_check_152 : decode b_M_check 152 = .ok (.goto 7, 3) := by decide +kernel
theorem d_M_check_155 : decode b_M_check 155 = .ok (.aload_n 0, 1) := by decide +kernel
theorem d_M_check_156 : decode b_M_check 156 = .ok (.getfield 336, 3) := by decide +kernel
theorem d_M_check_159 : decode b_M_check 159 = .ok (.putfield 336, 3) := by decide +kernel
theorem d_M_check_162 : decode b_M_check 162 = .ok (.iinc 1 1, 3) := by decide +kernel
theorem d_M_check_165 : decode b_M_check 165 = .ok (.goto (-39), 3) := by decide +kernel
theorem d_M_check_168 : decode b_M_check 168 = .ok (.aload_n 0, 1) := by decide +kernel
theorem d_M_check_169 : decode b_M_check 169 = .ok (.iconst 0, 1) := by decide +kernel
theorem d_M_check_170 : decode b_M_check 170 = .ok (.putfield 161, 3) := by decide +kernel
theorem d_M_check_173 : decode b_M_check 173 = .ok (.aload_n 0, 1) := by decide +kernel
theorem d_M_check_174 : decode b_M_check 174 = .ok (.getfield 336, 3) := by decide +kernel
theorem d_M_check_177 : decode b_M_check 177 = .ok (.ireturn, 1) := by decide +kernel
theorem d_M_command_0 : decode b_M_command 0 = .ok (.aload_n 0, 1) := by decide +kernel
theorem d_M_command_1 : decode b_M_command 1 = .ok (.iconst 1, 1) := by decide +kernel
theorem d_M_command_2 : decode b_M_command 2 = .ok (.bipush 13, 2) := by decide +kernel
theorem d_M_command_4 : decode b_M_command 4 = .ok (.invokevirtual 181, 3) := by decide +kernel
theorem d_M_command_7 : decode b_M_command 7 = .ok (.istore_n 1, 1) := by decide +kernel
theorem d_M_command_8 : decode b_M_command 8 = .ok (.iload_n 1, 1) := by decide +kernel
theorem d_M_command_9 : decode b_M_command 9 = .ok (.iconst 1, 1) := by decide +kernel
theorem d_M_command_10 : decode b_M_command 10 = .ok (.if_icmp .ne 28, 3) := by decide +kernel
theorem d_M_command_13 : decode b_M_command 13 = .ok (.aload_n 0, 1) := by decide +kernel
theorem d_M_command_14 : decode b_M_command 14 = .ok (.iconst 0, 1) := by decide +kernel
theorem d_M_command_15 : decode b_M_command 15 = .ok (.invokevirtual 276, 3) := by decide +kernel
theorem d_M_command_18 : decode b_M_command 18 = .ok (.aload_n 0, 1) := by decide +kernel
theorem d_M_command_19 : decode b_M_command 19 = .ok (.invokevirtual 252, 3) := by decide +kernel
theorem d_M_command_22 : decode b_M_command 22 = .ok (.aload_n 0, 1) := by decide +kernel
theorem d_M_command_23 : decode b_M_command 23 = .ok (.iconst 3, 1) := by decide +kernel
theorem d_M_command_24 : decode b_M_command 24 = .ok (.invokevirtual 279, 3) := by decide +kernel
theorem d_M_command_27 : decode b_M_command 27 = .ok (.aload_n 0, 1) := by decide +kernel
theorem d_M_command_28 : decode b_M_command 28 = .ok (.iconst 2, 1) := by decide +kernel
theorem d_M_command_29 : decode b_M_command 29 = .ok (.invokevirtual 279, 3) := by decide +kernel
theorem d_M_command_32 : decode b_M_command 32 = .ok (.aload_n 0, 1) := by decide +kernel
theorem d_M_command_33 : decode b_M_command 33 = .ok (.iconst 4, 1) := by decide +kernel
theorem d_M_command_34 : decode b_M_command 34 = .ok (.invokevirtual 279, 3) := by decide +kernel
theorem d_M_command_37 : decode b_M_command 37 = .ok (.return_, 1) := by decide +kernel
theorem d_M_command_38 : decode b_M_command 38 = .ok (.iload_n 1, 1) := by decide +kernel
theorem d_M_command_39 : decode b_M_command 39 = .ok (.iconst 4, 1) := by decide +kernel
theorem d_M_command_40 : decode b_M_command 40 = .ok (.if_icmp .ge 8, 3) := by decide +kernel
theorem d_M_command_43 : decode b_M_command 43 = .ok (.aload_n 0, 1) := by decide +kernel
theorem d_M_command_44 : decode b_M_command 44 = .ok (.invokevirtual 202, 3) := by decide +kernel
theorem d_M_command_47 : decode b_M_command 47 = .ok (.return_, 1) := by decide +kernel
theorem d_M_command_48 : decode b_M_command 48 = .ok (.aload_n 0, 1) := by decide +kernel
theorem d_M_command_49 : decode b_M_command 49 = .ok (.iload_n 1, 1) := by decide +kernel
theorem d_M_command_50 : decode b_M_command 50 = .ok (.bipush 7, 2) := by decide +kernel
theorem d_M_command_52 : decode b_M_command 52 = .ok (.if_icmp .ne 7, 3) := by decide +kernel
theorem d_M_command_55 : decode b_M_command 55 = .ok (.iconst 1, 1) := by decide +kernel
theorem d_M_command_56 : decode b_M_command 56 = .ok (.goto 42, 3) := by decide +kernel
theorem d_M_command_59 : decode b_M_command 59 = .ok (.iload_n 1, 1) := by decide +kernel
theorem d_M_command_60 : decode b_M_command 60 = .ok (.bipush 9, 2) := by decide +kernel
theorem d_M_command_62 : decode b_M_command 62 = .ok (.if_icmp .ne 7, 3) := by decide +kernel
theorem d_M_command_65 : decode b_M_command 65 = .ok (.iconst 2, 1) := by decide +kernel
theorem d_M_command_66 : decode b_M_command 66 = .ok (.goto 32, 3) := by decide +kernel
theorem d_M_command_69 : decode b_M_command 69 = .ok (.iload_n 1, 1) := by decide +kernel
theorem d_M_command_70 : decode b_M_command 70 = .ok (.bipush 9, 2) := by decide +kernel
theorem d_M_command_72 : decode b_M_command 72 = .ok (.if_icmp .le 14, 3) := by decide +kernel
theorem d_M_command_75 : decode b_M_command 75 = .ok (.iload_n 1, 1) := by decide +kernel
theorem d_M_command_76 : decode b_M_command 76 = .ok (.bipush 13, 2) := by decide +kernel
theorem d_M_command_78 : decode b_M_command 78 = .ok (.if_icmp .ge 8, 3) := by decide +kernel
theorem d_M_command_81 : decode b_M_command 81 = .ok (.bipush 16, 2) := by decide +kernel
theorem d_M_command_83 : decode b_M_command 83 = .ok (.goto 15, 3) := by decide +kernel
theorem d_M_command_86 : decode b_M_command 86 = .ok (.iload_n 1, 1) := by decide +kernel
theorem d_M_command_87 : decode b_M_command 87 = .ok (.bipush 13, 2) := by decide +kernel
theorem d_M_command_89 : decode b_M_command 89 = .ok (.if_icmp .ne 8, 3) := by decide +kernel
theorem d_M_command_92 : decode b_M_command 92 = .ok (.bipush 64, 2) := by decide +kernel
theorem d_M_command_94 : decode b_M_command 94 = .ok (.goto 4, 3) := by decide +kernel
theorem d_M_command_97 : decode b_M_command 97 = .ok (.iconst 0, 1) := by decide +kernel
theorem d_M_command_98 : decode b_M_command 98 = .ok (.invokevirtual 276, 3) := by decide +kernel
theorem d_M_command_101 : decode b_M_command 101 = .ok (.aload_n 0, 1) := by decide +kernel
theorem d_M_command_102 : decode b_M_command 102 = .ok (.invokevirtual 252, 3) := by decide +kernel
theorem d_M_command_105 : decode b_M_command 105 = .ok (.iload_n 1, 1) := by decide +kernel
theorem d_M_command_106 : decode b_M_command 106 = .ok (.iconst 5, 1) := by decide +kernel
theorem d_M_command_107 : decode b_M_command 107 = .ok (.if_icmp .le 14, 3) := by decide +kernel
theorem d_M_command_110 : decode b_M_command 110 = .ok (.iload_n 1, 1) := by decide +kernel
theorem d_M_command_111 : decode b_M_command 111 = .ok (.bipush 9, 2) := by decide +kernel
theorem d_M_command_113 : decode b_M_command 113 = .ok (.if_icmp .ge 8, 3) := by decide +kernel
theorem d_M_command_116 : decode b_M_command 116 = .ok (.aload_n 0, 1) := by decide +kernel
theorem d_M_command_117 : decode b_M_command 117 = .ok (.iload_n 1, 1) := by decide +kernel
theorem d_M_command_118 : decode b_M_command 118 = .ok (.invokevirtual 282, 3) := by decide +kernel
theorem d_M_command_121 : decode b_M_command 121 = .ok (.iload_n 1, 1) := by decide +kernel
theorem d_M_command_122 : decode b_M_command 122 = .ok (.bipush 7, 2) := by decide +kernel
theorem d_M_command_124 : decode b_M_command 124 = .ok (.if_icmp .ne 7, 3) := by decide +kernel
theorem d_M_command_127 : decode b_M_command 127 = .ok (.aload_n 0, 1) := by decide +kernel
theorem d_M_command_128 : decode b_M_command 128 = .ok (.invokevirtual 285, 3) := by decide +kernel
theorem d_M_command_131 : decode b_M_command 131 = .ok (.iload_n 1, 1) := by decide +kernel
theorem d_M_command_132 : decode b_M_command 132 = .ok (.bipush 8, 2) := by decide +kernel
theorem d_M_command_134 : decode b_M_command 134 = .ok (.if_icmp .ne 7, 3) := by decide +kernel
theorem d_M_command_137 : decode b_M_command 137 = .ok (.aload_n 0, 1) := by decide +kernel
theorem d_M_command_138 : decode b_M_command 138 = .ok (.invokevirtual 288, 3) := by decide +kernel
theorem d_M_command_141 : decode b_M_command 141 = .ok (.iload_n 1, 1) := by decide +kernel
theorem d_M_command_142 : decode b_M_command 142 = .ok (.bipush 9, 2) := by decide +kernel
theorem d_M_command_144 : decode b_M_command 144 = .ok (.if_icmp .ne 7, 3) := by decide +kernel
theorem d_M_command_147 : decode b_M_command 147 = .ok (.aload_n 0, 1) := by decide +kernel
theorem d_M_command_148 : decode b_M_command 148 = .ok (.invokevirtual 291, 3) := by decide +kernel
theorem d_M_command_151 : decode b_M_command 151 = .ok (.iload_n 1, 1) := by decide +kernel
theorem d_M_command_152 : decode b_M_command 152 = .ok (.bipush 9, 2) := by decide +kernel
theorem d_M_command_154 : decode b_M_command 154 = .ok (.if_icmp .le 14, 3) := by decide +kernel
theorem d_M_command_157 : decode b_M_command 157 = .ok (.iload_n 1, 1) := by decide +kernel
theorem d_M_command_158 : decode b_M_command 158 = .ok (.bipush 13, 2) := by decide +kernel
theorem d_M_command_160 : decode b_M_command 160 = .ok (.if_icmp .ge 8, 3) := by decide +kernel
theorem d_M_command_163 : decode b_M_command 163 = .ok (.aload_n 0, 1) := by decide +kernel
theorem d_M_command_164 : decode b_M_command 164 = .ok (.iconst 0, 1) := by decide +kernel
theorem d_M_command_165 : decode b_M_command 165 = .ok (.invokevirtual 294, 3) := by decide +kernel
theorem d_M_command_168 : decode b_M_command 168 = .ok (.iload_n 1, 1) := by decide +kernel
theorem d_M_command_169 : decode b_M_command 169 = .ok (.bipush 13, 2) := by decide +kernel
theorem d_M_command_171 : decode b_M_command 171 = .ok (.if_icmp .ne 7, 3) := by decide +kernel
theorem d_M_command_174 : decode b_M_command 174 = .ok (.aload_n 0, 1) := by decide +kernel
theorem d_M_command_175 : decode b_M_command 175 = .ok (.invokevirtual 298, 3) := by decide +kernel
theorem d_M_command_178 : decode b_M_command 178 = .ok (.aload_n 0, 1) := by decide +kernel
theorem d_M_command_179 : decode b_M_command 179 = .ok (.bipush 59, 2) := by decide +kernel
theorem d_M_command_181 : decode b_M_command 181 = .ok (.invokevirtual 273, 3) := by decide +kernel
theorem d_M_command_184 : decode b_M_command 184 = .ok (.return_, 1) := by decide +kernel
theorem d_M_count_0 : decode b_M_count 0 = .ok (.iload_n 1, 1) := by decide +kernel
theorem d_M_count_1 : decode b_M_count 1 = .ok (.ifCond .ne 10, 3) := by decide +kernel
theorem d_M_count_4 : decode b_M_count 4 = .ok (.aload_n 0, 1) := by decide +kernel
theorem d_M_count_5 : decode b_M_count 5 = .ok (.getfield 161, 3) := by decide +kernel
theorem d_M_count_8 : decode b_M_count 8 = .ok (.goto 40, 3) := by decide +kernel
theorem d_M_count_11 : decode b_M_count 11 = .ok (.iload_n 1, 1) := by decide +kernel
theorem d_M_count_12 : decode b_M_count 12 = .ok (.iconst 1, 1) := by decide +kernel
theorem d_M_count_13 : decode b_M_count 13 = .ok (.if_icmp .ne 10, 3) := by decide +kernel
theorem d_M_count_16 : decode b_M_count 16 = .ok (.aload_n 0, 1) := by decide +kernel
theorem d_M_count_17 : decode b_M_count 17 = .ok (.getfield 261, 3) := by decide +kernel
theorem d_M_count_20 : decode b_M_count 20 = .ok (.goto 28, 3) := by decide +kernel
theorem d_M_count_23 : decode b_M_count 23 = .ok (.iload_n 1, 1) := by decide +kernel
theorem d_M_count_24 : decode b_M_count 24 = .ok (.iconst 2, 1) := by decide +kernel
theorem d_M_count_25 : decode b_M_count 25 = .ok (.if_icmp .ne 10, 3) := by decide +kernel
theorem d_M_count_28 : decode b_M_count 28 = .ok (.aload_n 0, 1) := by decide +kernel
theorem d_M_count_29 : decode b_M_count 29 = .ok (.getfield 264, 3) := by decide +kernel
theorem d_M_count_32 : decode b_M_count 32 = .ok (.goto 16, 3) := by decide +kernel
theorem d_M_count_35 : decode b_M_count 35 = .ok (.iload_n 1, 1) := by decide +kernel
theorem d_M_count_36 : decode b_M_count 36 = .ok (.iconst 3, 1) := by decide +kernel
theorem d_M_count_37 : decode b_M_count 37 = .ok (.if_icmp .ne 10, 3) := by decide +kernel
theorem d_M_count_40 : decode b_M_count 40 = .ok (.aload_n 0, 1) := by decide +kernel
theorem d_M_count_41 : decode b_M_count 41 = .ok (.getfield 255, 3) := by decide +kernel
theorem d_M_count_44 : decode b_M_count 44 = .ok (.goto 4, 3) := by decide +kernel
theorem d_M_count_47 : decode b_M_count 47 = .ok (.iconst (-1), 1) := by decide +kernel
theorem d_M_count_48 : decode b_M_count 48 = .ok (.ireturn, 1) := by decide +kernel
theorem d_M_counting_0 : decode b_M_counting 0 = .ok (.iload_n 1, 1) := by decide +kernel
theorem d_M_counting_1 : decode b_M_counting 1 = .ok (.ifCond .le 8, 3) := by decide +kernel
theorem d_M_counting_4 : decode b_M_counting 4 = .ok (.aload_n 0, 1) := by decide +kernel
theorem d_M_counting_5 : decode b_M_counting 5 = .ok (.iload_n 1, 1) := by decide +kernel
theorem d_M_counting_6 : decode b_M_counting 6 = .ok (.invokevirtual 258, 3) := by decide +kernel
theorem d_M_counting_9 : decode b_M_counting 9 = .ok (.aload_n 0, 1) := by decide +kernel
theorem d_M_counting_10 : decode b_M_counting 10 = .ok (.getfield 261, 3) := by decide +kernel
theorem d_M_counting_13 : decode b_M_counting 13 = .ok (.bipush 40, 2) := by decide +kernel
theorem d_M_counting_15 : decode b_M_counting 15 = .ok (.if_icmp .ne 7, 3) := by decide +kernel
theorem d_M_counting_18 : decode b_M_counting 18 = .ok (.aload_n 0, 1) := by decide +kernel
theorem d_M_counting_19 : decode b_M_counting 19 = .ok (.invokevirtual 202, 3) := by decide +kernel
theorem d_M_counting_22 : decode b_M_counting 22 = .ok (.aload_n 0, 1) := by decide +kernel
theorem d_M_counting_23 : decode b_M_counting 23 = .ok (.getfield 154, 3) := by decide +kernel
theorem d_M_counting_26 : decode b_M_counting 26 = .ok (.ifCond .ge 13, 3) := by decide +kernel
theorem d_M_counting_29 : decode b_M_counting 29 = .ok (.aload_n 0, 1) := by decide +kernel
theorem d_M_counting_30 : decode b_M_counting 30 = .ok (.aload_n 0, 1) := by decide +kernel
theorem d_M_counting_31 : decode b_M_counting 31 = .ok (.getfield 261, 3) := by decide +kernel
theorem d_M_counting_34 : decode b_M_counting 34 = .ok (.iconst 1, 1) := by decide +kernel
theorem d_M_counting_35 : decode b_M_counting 35 = .ok (.iadd, 1) := by decide +kernel
theorem d_M_counting_36 : decode b_M_counting 36 = .ok (.putfield 261, 3) := by decide +kernel
theorem d_M_counting_39 : decode b_M_counting 39 = .ok (.return_, 1) := by decide +kernel
theorem d_M_digits_0 : decode b_M_digits 0 = .ok (.lconst 0, 1) := by decide +kernel
theorem d_M_digits_1 : decode b_M_digits 1 = .ok (.lstore_n 1, 1) := by decide +kernel
theorem d_M_digits_2 : decode b_M_digits 2 = .ok (.aload_n 0, 1) := by decide +kernel
theorem d_M_digits_3 : decode b_M_digits 3 = .ok (.iconst 0, 1) := by decide +kernel
theorem d_M_digits_4 : decode b_M_digits 4 = .ok (.invokevirtual 185, 3) := by decide +kernel
theorem d_M_digits_7 : decode b_M_digits 7 = .ok (.invokestatic 171, 3) := by decide +kernel
theorem d_M_digits_10 : decode b_M_digits 10 = .ok (.ifCond .eq 45, 3) := by decide +kernel
theorem d_M_digits_13 : decode b_M_digits 13 = .ok (.lload_n 1, 1) := by decide +kernel
theorem d_M_digits_14 : decode b_M_digits 14 = .ok (.ldc2_w 230, 3) := by decide +kernel
theorem d_M_digits_17 : decode b_M_digits 17 = .ok (.lcmp, 1) := by decide +kernel
theorem d_M_digits_18 : decode b_M_digits 18 = .ok (.ifCond .ge 22, 3) := by decide +kernel
theorem d_M_digits_21 : decode b_M_digits 21 = .ok (.ldc2_w 232, 3) := by decide +kernel
theorem d_M_digits_24 : decode b_M_digits 24 = .ok (.lload_n 1, 1) := by decide +kernel
theorem d_M_digits_25 : decode b_M_digits 25 = .ok (.lmul, 1) := by decide +kernel
theorem d_M_digits_26 : decode b_M_digits 26 = .ok (.aload_n 0, 1) := by decide +kernel
theorem d_M_digits_27 : decode b_M_digits 27 = .ok (.iconst 0, 1) := by decide +kernel
theorem d_M_digits_28 : decode b_M_digits 28 = .ok (.invokevirtual 185, 3) := by decide +kernel
theorem d_M_digits_31 : decode b_M_digits 31 = .ok (.i2l, 1) := by decide +kernel
theorem d_M_digits_32 : decode b_M_digits 32 = .ok (.ladd, 1) := by decide +kernel
theorem d_M_digits_33 : decode b_M_digits 33 = .ok (.ldc2_w 234, 3) := by decide +kernel
theorem d_M_digits_36 : decode b_M_digits 36 = .ok (.lsub, 1) := by decide +kernel
theorem d_M_digits_37 : decode b_M_digits 37 = .ok (.goto 4, 3) := by decide +kernel
theorem d_M_digits_40 : decode b_M_digits 40 = .ok (.lload_n 1, 1) := by decide +kernel
theorem d_M_digits_41 : decode b_M_digits 41 = .ok (.lstore_n 1, 1) := by decide +kernel
theorem d_M_digits_42 : decode b_M_digits 42 = .ok (.aload_n 0, 1) := by decide +kernel
theorem d_M_digits_43 : decode b_M_digits 43 = .ok (.aload_n 0, 1) := by decide +kernel
theorem d_M_digits_44 : decode b_M_digits 44 = .ok (.getfield 164, 3) := by decide +kernel
theorem d_M_digits_47 : decode b_M_digits 47 = .ok (.iconst 1, 1) := by decide +kernel
theorem d_M_digits_48 : decode b_M_digits 48 = .ok (.iadd, 1) := by decide +kernel
theorem d_M_digits_49 : decode b_M_digits 49 = .ok (.putfield 164, 3) := by decide +kernel
theorem d_M_digits_52 : decode b_M_digits 52 = .ok (.goto (-50), 3) := by decide +kernel
theorem d_M_digits_55 : decode b_M_digits 55 = .ok (.aload_n 0, 1) := by decide +kernel
theorem d_M_digits_56 : decode b_M_digits 56 = .ok (.iconst 0, 1) := by decide +kernel
theorem d_M_digits_57 : decode b_M_digits 57 = .ok (.invokevirtual 185, 3) := by decide +kernel
theorem d_M_digits_60 : decode b_M_digits 60 = .ok (.invokestatic 177, 3) := by decide +kernel
theorem d_M_digits_63 : decode b_M_digits 63 = .ok (.istore_n 3, 1) := by decide +kernel
theorem d_M_digits_64 : decode b_M_digits 64 = .ok (.iload_n 3, 1) := by decide +kernel
theorem d_M_digits_65 : decode b_M_digits 65 = .ok (.bipush 107, 2) := by decide +kernel
theorem d_M_digits_67 : decode b_M_digits 67 = .ok (.if_icmp .eq 15, 3) := by decide +kernel
theorem d_M_digits_70 : decode b_M_digits 70 = .ok (.iload_n 3, 1) := by decide +kernel
theorem d_M_digits_71 : decode b_M_digits 71 = .ok (.bipush 109, 2) := by decide +kernel
theorem d_M_digits_73 : decode b_M_digits 73 = .ok (.if_icmp .eq 9, 3) := by decide +kernel
theorem d_M_digits_76 : decode b_M_digits 76 = .ok (.iload_n 3, 1) := by decide +kernel
theorem d_M_digits_77 : decode b_M_digits 77 = .ok (.bipush 103, 2) := by decide +kernel
theorem d_M_digits_79 : decode b_M_digits 79 = .ok (.if_icmp .ne 54, 3) := by decide +kernel
theorem d_M_digits_82 : decode b_M_digits 82 = .ok (.aload_n 0, 1) := by decide +kernel
theorem d_M_digits_83 : decode b_M_digits 83 = .ok (.aload_n 0, 1) := by decide +kernel
theorem d_M_digits_84 : decode b_M_digits 84 = .ok (.getfield 164, 3) := by decide +kernel
theorem d_M_digits_87 : decode b_M_digits 87 = .ok (.iconst 1, 1) := by decide +kernel
theorem d_M_digits_88 : decode b_M_digits 88 = .ok (.iadd, 1) := by decide +kernel
theorem d_M_digits_89 : decode b_M_digits 89 = .ok (.putfield 164, 3) := by decide +kernel
theorem d_M_digits_92 : decode b_M_digits 92 = .ok (.lload_n 1, 1) := by decide +kernel
theorem d_M_digits_93 : decode b_M_digits 93 = .ok (.ldc2_w 236, 3) := by decide +kernel
theorem d_M_digits_96 : decode b_M_digits 96 = .ok (.lcmp, 1) := by decide +kernel
theorem d_M_digits_97 : decode b_M_digits 97 = .ok (.ifCond .ge 7, 3) := by decide +kernel
theorem d_M_digits_100 : decode b_M_digits 100 = .ok (.lload_n 1, 1) := by decide +kernel
theorem d_M_digits_101 : decode b_M_digits 101 = .ok (.goto 6, 3) := by decide +kernel
theorem d_M_digits_104 : decode b_M_digits 104 = .ok (.ldc2_w 236, 3) := by decide +kernel
theorem d_M_digits_107 : decode b_M_digits 107 = .ok (.iload_n 3, 1) := by decide +kernel
theorem d_M_digits_108 : decode b_M_digits 108 = .ok (.bipush 107, 2) := by decide +kernel
theorem d_M_digits_110 : decode b_M_digits 110 = .ok (.if_icmp .ne 8, 3) := by decide +kernel
theorem d_M_digits_113 : decode b_M_digits 113 = .ok (.bipush 10, 2) := by decide +kernel
theorem d_M_digits_115 : decode b_M_digits 115 = .ok (.goto 16, 3) := by decide +kernel
theorem d_M_digits_118 : decode b_M_digits 118 = .ok (.iload_n 3, 1) := by decide +kernel
theorem d_M_digits_119 : decode b_M_digits 119 = .ok (.bipush 109, 2) := by decide +kernel
theorem d_M_digits_121 : decode b_M_digits 121 = .ok (.if_icmp .ne 8, 3) := by decide +kernel
theorem d_M_digits_124 : decode b_M_digits 124 = .ok (.bipush 20, 2) := by decide +kernel
theorem d_M_digits_126 : decode b_M_digits 126 = .ok (.goto 5, 3) := by decide +kernel
theorem d_M_digits_129 : decode b_M_digits 129 = .ok (.bipush 30, 2) := by decide +kernel
theorem d_M_digits_131 : decode b_M_digits 131 = .ok (.lshl, 1) := by decide +kernel
theorem d_M_digits_132 : decode b_M_digits 132 = .ok (.lstore_n 1, 1) := by decide +kernel
theorem d_M_digits_133 : decode b_M_digits 133 = .ok (.aload_n 0, 1) := by decide +kernel
theorem d_M_digits_134 : decode b_M_digits 134 = .ok (.iconst 0, 1) := by decide +kernel
theorem d_M_digits_135 : decode b_M_digits 135 = .ok (.invokevirtual 185, 3) := by decide +kernel
theorem d_M_digits_138 : decode b_M_digits 138 = .ok (.invokestatic 223, 3) := by decide +kernel
theorem d_M_digits_141 : decode b_M_digits 141 = .ok (.ifCond .ne 11, 3) := by decide +kernel
theorem d_M_digits_144 : decode b_M_digits 144 = .ok (.lload_n 1, 1) := by decide +kernel
theorem d_M_digits_145 : decode b_M_digits 145 = .ok (.ldc2_w 238, 3) := by decide +kernel
theorem d_M_digits_148 : decode b_M_digits 148 = .ok (.lcmp, 1) := by decide +kernel
theorem d_M_digits_149 : decode b_M_digits 149 = .ok (.ifCond .le 7, 3) := by decide +kernel
theorem d_M_digits_152 : decode b_M_digits 152 = .ok (.iconst 5, 1) := by decide +kernel
theorem d_M_digits_153 : decode b_M_digits 153 = .ok (.goto 4, 3) := by decide +kernel
theorem d_M_digits_156 : decode b_M_digits 156 = .ok (.iconst 3, 1) := by decide +kernel
theorem d_M_digits_157 : decode b_M_digits 157 = .ok (.ireturn, 1) := by decide +kernel
theorem d_M_endAt_0 : decode b_M_endAt 0 = .ok (.iload_n 1, 1) := by decide +kernel
theorem d_M_endAt_1 : decode b_M_endAt 1 = .ok (.aload_n 0, 1) := by decide +kernel
theorem d_M_endAt_2 : decode b_M_endAt 2 = .ok (.getfield 161, 3) := by decide +kernel
theorem d_M_endAt_5 : decode b_M_endAt 5 = .ok (.if_icmp .ge 18, 3) := by decide +kernel
theorem d_M_endAt_8 : decode b_M_endAt 8 = .ok (.aload_n 0, 1) := by decide +kernel
theorem d_M_endAt_9 : decode b_M_endAt 9 = .ok (.getfield 145, 3) := by decide +kernel
theorem d_M_endAt_12 : decode b_M_endAt 12 = .ok (.iload_n 1, 1) := by decide +kernel
theorem d_M_endAt_13 : decode b_M_endAt 13 = .ok (.iaload, 1) := by decide +kernel
theorem d_M_endAt_14 : decode b_M_endAt 14 = .ok (.bipush 10, 2) := by decide +kernel
theorem d_M_endAt_16 : decode b_M_endAt 16 = .ok (.if_icmp .ne 7, 3) := by decide +kernel
theorem d_M_endAt_19 : decode b_M_endAt 19 = .ok (.iconst 1, 1) := by decide +kernel
theorem d_M_endAt_20 : decode b_M_endAt 20 = .ok (.goto 42, 3) := by decide +kernel
theorem d_M_endAt_23 : decode b_M_endAt 23 = .ok (.iload_n 1, 1) := by decide +kernel
theorem d_M_endAt_24 : decode b_M_endAt 24 = .ok (.iconst 1, 1) := by decide +kernel
theorem d_M_endAt_25 : decode b_M_endAt 25 = .ok (.iadd, 1) := by decide +kernel
theorem d_M_endAt_26 : decode b_M_endAt 26 = .ok (.aload_n 0, 1) := by decide +kernel
theorem d_M_endAt_27 : decode b_M_endAt 27 = .ok (.getfield 161, 3) := by decide +kernel
theorem d_M_endAt_30 : decode b_M_endAt 30 = .ok (.if_icmp .ge 31, 3) := by decide +kernel
theorem d_M_endAt_33 : decode b_M_endAt 33 = .ok (.aload_n 0, 1) := by decide +kernel
theorem d_M_endAt_34 : decode b_M_endAt 34 = .ok (.getfield 145, 3) := by decide +kernel
theorem d_M_endAt_37 : decode b_M_endAt 37 = .ok (.iload_n 1, 1) := by decide +kernel
theorem d_M_endAt_38 : decode b_M_endAt 38 = .ok (.iaload, 1) := by decide +kernel
theorem d_M_endAt_39 : decode b_M_endAt 39 = .ok (.bipush 13, 2) := by decide +kernel
theorem d_M_endAt_41 : decode b_M_endAt 41 = .ok (.if_icmp .ne 20, 3) := by decide +kernel
theorem d_M_endAt_44 : decode b_M_endAt 44 = .ok (.aload_n 0, 1) := by decide +kernel
theorem d_M_endAt_45 : decode b_M_endAt 45 = .ok (.getfield 145, 3) := by decide +kernel
theorem d_M_endAt_48 : decode b_M_endAt 48 = .ok (.iload_n 1, 1) := by decide +kernel
theorem d_M_endAt_49 : decode b_M_endAt 49 = .ok (.iconst 1, 1) := by decide +kernel
theorem d_M_endAt_50 : decode b_M_endAt 50 = .ok (.iadd, 1) := by decide +kernel
theorem d_M_endAt_51 : decode b_M_endAt 51 = .ok (.iaload, 1) := by decide +kernel
theorem d_M_endAt_52 : decode b_M_endAt 52 = .ok (.bipush 10, 2) := by decide +kernel
theorem d_M_endAt_54 : decode b_M_endAt 54 = .ok (.if_icmp .ne 7, 3) := by decide +kernel
theorem d_M_endAt_57 : decode b_M_endAt 57 = .ok (.iconst 2, 1) := by decide +kernel
theorem d_M_endAt_58 : decode b_M_endAt 58 = .ok (.goto 4, 3) := by decide +kernel
theorem d_M_endAt_61 : decode b_M_endAt 61 = .ok (.iconst 0, 1) := by decide +kernel
theorem d_M_endAt_62 : decode b_M_endAt 62 = .ok (.ireturn, 1) := by decide +kernel
theorem d_M_fail_0 : decode b_M_fail 0 = .ok (.aload_n 0, 1) := by decide +kernel
theorem d_M_fail_1 : decode b_M_fail 1 = .ok (.aload_n 0, 1) := by decide +kernel
theorem d_M_fail_2 : decode b_M_fail 2 = .ok (.getfield 154, 3) := by decide +kernel
theorem d_M_fail_5 : decode b_M_fail 5 = .ok (.ifCond .ge 10, 3) := by decide +kernel
theorem d_M_fail_8 : decode b_M_fail 8 = .ok (.aload_n 0, 1) := by decide +kernel
theorem d_M_fail_9 : decode b_M_fail 9 = .ok (.getfield 192, 3) := by decide +kernel
theorem d_M_fail_12 : decode b_M_fail 12 = .ok (.goto 7, 3) := by decide +kernel
theorem d_M_fail_15 : decode b_M_fail 15 = .ok (.aload_n 0, 1) := by decide +kernel
theorem d_M_fail_16 : decode b_M_fail 16 = .ok (.getfield 154, 3) := by decide +kernel
theorem d_M_fail_19 : decode b_M_fail 19 = .ok (.putfield 154, 3) := by decide +kernel
theorem d_M_fail_22 : decode b_M_fail 22 = .ok (.aload_n 0, 1) := by decide +kernel
theorem d_M_fail_23 : decode b_M_fail 23 = .ok (.iconst 0, 1) := by decide +kernel
theorem d_M_fail_24 : decode b_M_fail 24 = .ok (.putfield 199, 3) := by decide +kernel
theorem d_M_fail_27 : decode b_M_fail 27 = .ok (.aload_n 0, 1) := by decide +kernel
theorem d_M_fail_28 : decode b_M_fail 28 = .ok (.iconst 0, 1) := by decide +kernel
theorem d_M_fail_29 : decode b_M_fail 29 = .ok (.putfield 243, 3) := by decide +kernel
theorem d_M_fail_32 : decode b_M_fail 32 = .ok (.return_, 1) := by decide +kernel
theorem d_M_file_0 : decode b_M_file 0 = .ok (.aload_n 0, 1) := by decide +kernel
theorem d_M_file_1 : decode b_M_file 1 = .ok (.invokevirtual 267, 3) := by decide +kernel
theorem d_M_file_4 : decode b_M_file 4 = .ok (.aload_n 0, 1) := by decide +kernel
theorem d_M_file_5 : decode b_M_file 5 = .ok (.getfield 174, 3) := by decide +kernel
theorem d_M_file_8 : decode b_M_file 8 = .ok (.ifCond .le 16, 3) := by decide +kernel
theorem d_M_file_11 : decode b_M_file 11 = .ok (.aload_n 0, 1) := by decide +kernel
theorem d_M_file_12 : decode b_M_file 12 = .ok (.getfield 174, 3) := by decide +kernel
theorem d_M_file_15 : decode b_M_file 15 = .ok (.bipush 20, 2) := by decide +kernel
theorem d_M_file_17 : decode b_M_file 17 = .ok (.if_icmp .gt 7, 3) := by decide +kernel
theorem d_M_file_20 : decode b_M_file 20 = .ok (.iconst 1, 1) := by decide +kernel
theorem d_M_file_21 : decode b_M_file 21 = .ok (.goto 4, 3) := by decide +kernel
theorem d_M_file_24 : decode b_M_file 24 = .ok (.iconst 0, 1) := by decide +kernel
theorem d_M_file_25 : decode b_M_file 25 = .ok (.istore_n 1, 1) := by decide +kernel
theorem d_M_file_26 : decode b_M_file 26 = .ok (.iconst 0, 1) := by decide +kernel
theorem d_M_file_27 : decode b_M_file 27 = .ok (.istore_n 2, 1) := by decide +kernel
theorem d_M_file_28 : decode b_M_file 28 = .ok (.iload_n 2, 1) := by decide +kernel
theorem d_M_file_29 : decode b_M_file 29 = .ok (.aload_n 0, 1) := by decide +kernel
theorem d_M_file_30 : decode b_M_file 30 = .ok (.getfield 174, 3) := by decide +kernel
theorem d_M_file_33 : decode b_M_file 33 = .ok (.if_icmp .ge 52, 3) := by decide +kernel
theorem d_M_file_36 : decode b_M_file 36 = .ok (.iload_n 1, 1) := by decide +kernel
theorem d_M_file_37 : decode b_M_file 37 = .ok (.ifCond .eq 48, 3) := by decide +kernel
theorem d_M_file_40 : decode b_M_file 40 = .ok (.aload_n 0, 1) := by decide +kernel
theorem d_M_file_41 : decode b_M_file 41 = .ok (.getfield 151, 3) := by decide +kernel
theorem d_M_file_44 : decode b_M_file 44 = .ok (.iload_n 2, 1) := by decide +kernel
theorem d_M_file_45 : decode b_M_file 45 = .ok (.iaload, 1) := by decide +kernel
theorem d_M_file_46 : decode b_M_file 46 = .ok (.bipush 32, 2) := by decide +kernel
theorem d_M_file_48 : decode b_M_file 48 = .ok (.if_icmp .lt 29, 3) := by decide +kernel
theorem d_M_file_51 : decode b_M_file 51 = .ok (.aload_n 0, 1) := by decide +kernel
theorem d_M_file_52 : decode b_M_file 52 = .ok (.getfield 151, 3) := by decide +kernel
theorem d_M_file_55 : decode b_M_file 55 = .ok (.iload_n 2, 1) := by decide +kernel
theorem d_M_file_56 : decode b_M_file 56 = .ok (.iaload, 1) := by decide +kernel
theorem d_M_file_57 : decode b_M_file 57 = .ok (.bipush 127, 2) := by decide +kernel
theorem d_M_file_59 : decode b_M_file 59 = .ok (.if_icmp .ge 18, 3) := by decide +kernel
theorem d_M_file_62 : decode b_M_file 62 = .ok (.aload_n 0, 1) := by decide +kernel
theorem d_M_file_63 : decode b_M_file 63 = .ok (.getfield 151, 3) := by decide +kernel
theorem d_M_file_66 : decode b_M_file 66 = .ok (.iload_n 2, 1) := by decide +kernel
theorem d_M_file_67 : decode b_M_file 67 = .ok (.iaload, 1) := by decide +kernel
theorem d_M_file_68 : decode b_M_file 68 = .ok (.bipush 34, 2) := by decide +kernel
theorem d_M_file_70 : decode b_M_file 70 = .ok (.if_icmp .eq 7, 3) := by decide +kernel
theorem d_M_file_73 : decode b_M_file 73 = .ok (.iconst 1, 1) := by decide +kernel
theorem d_M_file_74 : decode b_M_file 74 = .ok (.goto 4, 3) := by decide +kernel
theorem d_M_file_77 : decode b_M_file 77 = .ok (.iconst 0, 1) := by decide +kernel
theorem d_M_file_78 : decode b_M_file 78 = .ok (.istore_n 1, 1) := by decide +kernel
theorem d_M_file_79 : decode b_M_file 79 = .ok (.iinc 2 1, 3) := by decide +kernel
theorem d_M_file_82 : decode b_M_file 82 = .ok (.goto (-54), 3) := by decide +kernel
theorem d_M_file_85 : decode b_M_file 85 = .ok (.iload_n 1, 1) := by decide +kernel
theorem d_M_file_86 : decode b_M_file 86 = .ok (.ifCond .ne 7, 3) := by decide +kernel
theorem d_M_file_89 : decode b_M_file 89 = .ok (.aload_n 0, 1) := by decide +kernel
theorem d_M_file_90 : decode b_M_file 90 = .ok (.invokevirtual 202, 3) := by decide +kernel
theorem d_M_file_93 : decode b_M_file 93 = .ok (.aload_n 0, 1) := by decide +kernel
theorem d_M_file_94 : decode b_M_file 94 = .ok (.invokevirtual 252, 3) := by decide +kernel
theorem d_M_file_97 : decode b_M_file 97 = .ok (.return_, 1) := by decide +kernel
theorem d_M_how_0 : decode b_M_how 0 = .ok (.iconst 0, 1) := by decide +kernel
theorem d_M_how_1 : decode b_M_how 1 = .ok (.istore_n 2, 1) := by decide +kernel
theorem d_M_how_2 : decode b_M_how 2 = .ok (.aload_n 0, 1) := by decide +kernel
theorem d_M_how_3 : decode b_M_how 3 = .ok (.iconst 2, 1) := by decide +kernel
theorem d_M_how_4 : decode b_M_how 4 = .ok (.invokevirtual 246, 3) := by decide +kernel
theorem d_M_how_7 : decode b_M_how 7 = .ok (.ifCond .eq 131, 3) := by decide +kernel
theorem d_M_how_10 : decode b_M_how 10 = .ok (.aload_n 0, 1) := by decide +kernel
theorem d_M_how_11 : decode b_M_how 11 = .ok (.bipush 33, 2) := by decide +kernel
theorem d_M_how_13 : decode b_M_how 13 = .ok (.bipush 9, 2) := by decide +kernel
theorem d_M_how_15 : decode b_M_how 15 = .ok (.invokevirtual 181, 3) := by decide +kernel
theorem d_M_how_18 : decode b_M_how 18 = .ok (.istore_n 3, 1) := by decide +kernel
theorem d_M_how_19 : decode b_M_how 19 = .ok (.iload_n 3, 1) := by decide +kernel
theorem d_M_how_20 : decode b_M_how 20 = .ok (.ifCond .ge 7, 3) := by decide +kernel
theorem d_M_how_23 : decode b_M_how 23 = .ok (.iconst 0, 1) := by decide +kernel
theorem d_M_how_24 : decode b_M_how 24 = .ok (.goto 24, 3) := by decide +kernel
theorem d_M_how_27 : decode b_M_how 27 = .ok (.iload_n 3, 1) := by decide +kernel
theorem d_M_how_28 : decode b_M_how 28 = .ok (.bipush 38, 2) := by decide +kernel
theorem d_M_how_30 : decode b_M_how 30 = .ok (.if_icmp .ge 7, 3) := by decide +kernel
theorem d_M_how_33 : decode b_M_how 33 = .ok (.iconst 1, 1) := by decide +kernel
theorem d_M_how_34 : decode b_M_how 34 = .ok (.goto 14, 3) := by decide +kernel
theorem d_M_how_37 : decode b_M_how 37 = .ok (.iload_n 3, 1) := by decide +kernel
theorem d_M_how_38 : decode b_M_how 38 = .ok (.bipush 38, 2) := by decide +kernel
theorem d_M_how_40 : decode b_M_how 40 = .ok (.if_icmp .ne 7, 3) := by decide +kernel
theorem d_M_how_43 : decode b_M_how 43 = .ok (.iconst 2, 1) := by decide +kernel
theorem d_M_how_44 : decode b_M_how 44 = .ok (.goto 4, 3) := by decide +kernel
theorem d_M_how_47 : decode b_M_how 47 = .ok (.iconst 4, 1) := by decide +kernel
theorem d_M_how_48 : decode b_M_how 48 = .ok (.istore 4, 2) := by decide +kernel
theorem d_M_how_50 : decode b_M_how 50 = .ok (.iload_n 3, 1) := by decide +kernel
theorem d_M_how_51 : decode b_M_how 51 = .ok (.ifCond .lt 20, 3) := by decide +kernel
theorem d_M_how_54 : decode b_M_how 54 = .ok (.iload_n 2, 1) := by decide +kernel
theorem d_M_how_55 : decode b_M_how 55 = .ok (.iload 4, 2) := by decide +kernel
theorem d_M_how_57 : decode b_M_how 57 = .ok (.iand, 1) := by decide +kernel
theorem d_M_how_58 : decode b_M_how 58 = .ok (.ifCond .ne 13, 3) := by decide +kernel
theorem d_M_how_61 : decode b_M_how 61 = .ok (.iload 4, 2) := by decide +kernel
theorem d_M_how_63 : decode b_M_how 63 = .ok (.iconst 4, 1) := by decide +kernel
theorem d_M_how_64 : decode b_M_how 64 = .ok (.if_icmp .ne 11, 3) := by decide +kernel
theorem d_M_how_67 : decode b_M_how 67 = .ok (.iload_n 1, 1) := by decide +kernel
theorem d_M_how_68 : decode b_M_how 68 = .ok (.ifCond .ne 7, 3) := by decide +kernel
theorem d_M_how_71 : decode b_M_how 71 = .ok (.aload_n 0, 1) := by decide +kernel
theorem d_M_how_72 : decode b_M_how 72 = .ok (.invokevirtual 202, 3) := by decide +kernel
theorem d_M_how_75 : decode b_M_how 75 = .ok (.iload_n 3, 1) := by decide +kernel
theorem d_M_how_76 : decode b_M_how 76 = .ok (.bipush 36, 2) := by decide +kernel
theorem d_M_how_78 : decode b_M_how 78 = .ok (.if_icmp .eq 9, 3) := by decide +kernel
theorem d_M_how_81 : decode b_M_how 81 = .ok (.iload_n 3, 1) := by decide +kernel
theorem d_M_how_82 : decode b_M_how 82 = .ok (.bipush 37, 2) := by decide +kernel
theorem d_M_how_84 : decode b_M_how 84 = .ok (.if_icmp .ne 9, 3) := by decide +kernel
theorem d_M_how_87 : decode b_M_how 87 = .ok (.aload_n 0, 1) := by decide +kernel
theorem d_M_how_88 : decode b_M_how 88 = .ok (.bipush 32, 2) := by decide +kernel
theorem d_M_how_90 : decode b_M_how 90 = .ok (.invokevirtual 258, 3) := by decide +kernel
theorem d_M_how_93 : decode b_M_how 93 = .ok (.iload_n 2, 1) := by decide +kernel
theorem d_M_how_94 : decode b_M_how 94 = .ok (.iload 4, 2) := by decide +kernel
theorem d_M_how_96 : decode b_M_how 96 = .ok (.ior, 1) := by decide +kernel
theorem d_M_how_97 : decode b_M_how 97 = .ok (.istore_n 2, 1) := by decide +kernel
theorem d_M_how_98 : decode b_M_how 98 = .ok (.aload_n 0, 1) := by decide +kernel
theorem d_M_how_99 : decode b_M_how 99 = .ok (.invokevirtual 252, 3) := by decide +kernel
theorem d_M_how_102 : decode b_M_how 102 = .ok (.iload_n 3, 1) := by decide +kernel
theorem d_M_how_103 : decode b_M_how 103 = .ok (.bipush 36, 2) := by decide +kernel
theorem d_M_how_105 : decode b_M_how 105 = .ok (.if_icmp .eq 9, 3) := by decide +kernel
theorem d_M_how_108 : decode b_M_how 108 = .ok (.iload_n 3, 1) := by decide +kernel
theorem d_M_how_109 : decode b_M_how 109 = .ok (.bipush 37, 2) := by decide +kernel
theorem d_M_how_111 : decode b_M_how 111 = .ok (.if_icmp .ne 11, 3) := by decide +kernel
theorem d_M_how_114 : decode b_M_how 114 = .ok (.aload_n 0, 1) := by decide +kernel
theorem d_M_how_115 : decode b_M_how 115 = .ok (.bipush 42, 2) := by decide +kernel
theorem d_M_how_117 : decode b_M_how 117 = .ok (.bipush 6, 2) := by decide +kernel
theorem d_M_how_119 : decode b_M_how 119 = .ok (.invokevirtual 317, 3) := by decide +kernel
theorem d_M_how_122 : decode b_M_how 122 = .ok (.iload_n 3, 1) := by decide +kernel
theorem d_M_how_123 : decode b_M_how 123 = .ok (.bipush 38, 2) := by decide +kernel
theorem d_M_how_125 : decode b_M_how 125 = .ok (.if_icmp .ne 10, 3) := by decide +kernel
theorem d_M_how_128 : decode b_M_how 128 = .ok (.aload_n 0, 1) := by decide +kernel
theorem d_M_how_129 : decode b_M_how 129 = .ok (.bipush 48, 2) := by decide +kernel
theorem d_M_how_131 : decode b_M_how 131 = .ok (.iconst 3, 1) := by decide +kernel
theorem d_M_how_132 : decode b_M_how 132 = .ok (.invokevirtual 317, 3) := by decide +kernel
theorem d_M_how_135 : decode b_M_how 135 = .ok (.goto (-133), 3) := by decide +kernel
theorem d_M_how_138 : decode b_M_how 138 = .ok (.return_, 1) := by decide +kernel
theorem d_M_is_0 : decode b_M_is 0 = .ok (.aload_n 0, 1) := by decide +kernel
theorem d_M_is_1 : decode b_M_is 1 = .ok (.getfield 154, 3) := by decide +kernel
theorem d_M_is_4 : decode b_M_is 4 = .ok (.ifCond .ge 15, 3) := by decide +kernel
theorem d_M_is_7 : decode b_M_is 7 = .ok (.aload_n 0, 1) := by decide +kernel
theorem d_M_is_8 : decode b_M_is 8 = .ok (.getfield 199, 3) := by decide +kernel
theorem d_M_is_11 : decode b_M_is 11 = .ok (.iload_n 1, 1) := by decide +kernel
theorem d_M_is_12 : decode b_M_is 12 = .ok (.if_icmp .ne 7, 3) := by decide +kernel
theorem d_M_is_15 : decode b_M_is 15 = .ok (.iconst 1, 1) := by decide +kernel
theorem d_M_is_16 : decode b_M_is 16 = .ok (.goto 4, 3) := by decide +kernel
theorem d_M_is_19 : decode b_M_is 19 = .ok (.iconst 0, 1) := by decide +kernel
theorem d_M_is_20 : decode b_M_is 20 = .ok (.ireturn, 1) := by decide +kernel
theorem d_M_isDigit_0 : decode b_M_isDigit 0 = .ok (.iload_n 0, 1) := by decide +kernel
theorem d_M_isDigit_1 : decode b_M_isDigit 1 = .ok (.bipush 48, 2) := by decide +kernel
theorem d_M_isDigit_3 : decode b_M_isDigit 3 = .ok (.if_icmp .lt 13, 3) := by decide +kernel
theorem d_M_isDigit_6 : decode b_M_isDigit 6 = .ok (.iload_n 0, 1) := by decide +kernel
theorem d_M_isDigit_7 : decode b_M_isDigit 7 = .ok (.bipush 57, 2) := by decide +kernel
theorem d_M_isDigit_9 : decode b_M_isDigit 9 = .ok (.if_icmp .gt 7, 3) := by decide +kernel
theorem d_M_isDigit_12 : decode b_M_isDigit 12 = .ok (.iconst 1, 1) := by decide +kernel
theorem d_M_isDigit_13 : decode b_M_isDigit 13 = .ok (.goto 4, 3) := by decide +kernel
theorem d_M_isDigit_16 : decode b_M_isDigit 16 = .ok (.iconst 0, 1) := by decide +kernel
theorem d_M_isDigit_17 : decode b_M_isDigit 17 = .ok (.ireturn, 1) := by decide +kernel
theorem d_M_isDotted_0 : decode b_M_isDotted 0 = .ok (.iload_n 2, 1) := by decide +kernel
theorem d_M_isDotted_1 : decode b_M_isDotted 1 = .ok (.iload_n 1, 1) := by decide +kernel
theorem d_M_isDotted_2 : decode b_M_isDotted 2 = .ok (.if_icmp .le 14, 3) := by decide +kernel
theorem d_M_isDotted_5 : decode b_M_isDotted 5 = .ok (.iload_n 2, 1) := by decide +kernel
theorem d_M_isDotted_6 : decode b_M_isDotted 6 = .ok (.iload_n 1, 1) := by decide +kernel
theorem d_M_isDotted_7 : decode b_M_isDotted 7 = .ok (.isub, 1) := by decide +kernel
theorem d_M_isDotted_8 : decode b_M_isDotted 8 = .ok (.iload_n 3, 1) := by decide +kernel
theorem d_M_isDotted_9 : decode b_M_isDotted 9 = .ok (.if_icmp .gt 7, 3) := by decide +kernel
theorem d_M_isDotted_12 : decode b_M_isDotted 12 = .ok (.iconst 1, 1) := by decide +kernel
theorem d_M_isDotted_13 : decode b_M_isDotted 13 = .ok (.goto 4, 3) := by decide +kernel
theorem d_M_isDotted_16 : decode b_M_isDotted 16 = .ok (.iconst 0, 1) := by decide +kernel
theorem d_M_isDotted_17 : decode b_M_isDotted 17 = .ok (.istore 5, 2) := by decide +kernel
theorem d_M_isDotted_19 : decode b_M_isDotted 19 = .ok (.iload_n 1, 1) := by decide +kernel
theorem d_M_isDotted_20 : decode b_M_isDotted 20 = .ok (.istore 6, 2) := by decide +kernel
theorem d_M_isDotted_22 : decode b_M_isDotted 22 = .ok (.iload 6, 2) := by decide +kernel
theorem d_M_isDotted_24 : decode b_M_isDotted 24 = .ok (.iload_n 2, 1) := by decide +kernel
theorem d_M_isDotted_25 : decode b_M_isDotted 25 = .ok (.if_icmp .ge 137, 3) := by decide +kernel
theorem d_M_isDotted_28 : decode b_M_isDotted 28 = .ok (.iload 5, 2) := by decide +kernel
theorem d_M_isDotted_30 : decode b_M_isDotted 30 = .ok (.ifCond .eq 132, 3) := by decide +kernel
theorem d_M_isDotted_33 : decode b_M_isDotted 33 = .ok (.aload_n 0, 1) := by decide +kernel
theorem d_M_isDotted_34 : decode b_M_isDotted 34 = .ok (.getfield 151, 3) := by decide +kernel
theorem d_M_isDotted_37 : decode b_M_isDotted 37 = .ok (.iload 6, 2) := by decide +kernel
theorem d_M_isDotted_39 : decode b_M_isDotted 39 = .ok (.iaload, 1) := by decide +kernel
theorem d_M_isDotted_40 : decode b_M_isDotted 40 = .ok (.bipush 46, 2) := by decide +kernel
theorem d_M_isDotted_42 : decode b_M_isDotted 42 = .ok (.if_icmp .ne 7, 3) := by decide +kernel
theorem d_M_isDotted_45 : decode b_M_isDotted 45 = .ok (.iconst 1, 1) := by decide +kernel
theorem d_M_isDotted_46 : decode b_M_isDotted 46 = .ok (.goto 4, 3) := by decide +kernel
theorem d_M_isDotted_49 : decode b_M_isDotted 49 = .ok (.iconst 0, 1) := by decide +kernel
theorem d_M_isDotted_50 : decode b_M_isDotted 50 = .ok (.istore 7, 2) := by decide +kernel
theorem d_M_isDotted_52 : decode b_M_isDotted 52 = .ok (.iload 7, 2) := by decide +kernel
theorem d_M_isDotted_54 : decode b_M_isDotted 54 = .ok (.ifCond .eq 39, 3) := by decide +kernel
theorem d_M_isDotted_57 : decode b_M_isDotted 57 = .ok (.iload 6, 2) := by decide +kernel
theorem d_M_isDotted_59 : decode b_M_isDotted 59 = .ok (.iload_n 1, 1) := by decide +kernel
theorem d_M_isDotted_60 : decode b_M_isDotted 60 = .ok (.if_icmp .le 29, 3) := by decide +kernel
theorem d_M_isDotted_63 : decode b_M_isDotted 63 = .ok (.iload 6, 2) := by decide +kernel
theorem d_M_isDotted_65 : decode b_M_isDotted 65 = .ok (.iconst 1, 1) := by decide +kernel
theorem d_M_isDotted_66 : decode b_M_isDotted 66 = .ok (.iadd, 1) := by decide +kernel
theorem d_M_isDotted_67 : decode b_M_isDotted 67 = .ok (.iload_n 2, 1) := by decide +kernel
theorem d_M_isDotted_68 : decode b_M_isDotted 68 = .ok (.if_icmp .ge 21, 3) := by decide +kernel
theorem d_M_isDotted_71 : decode b_M_isDotted 71 = .ok (.aload_n 0, 1) := by decide +kernel
theorem d_M_isDotted_72 : decode b_M_isDotted 72 = .ok (.getfield 151, 3) := by decide +kernel
theorem d_M_isDotted_75 : decode b_M_isDotted 75 = .ok (.iload 6, 2) := by decide +kernel
theorem d_M_isDotted_77 : decode b_M_isDotted 77 = .ok (.iconst 1, 1) := by decide +kernel
theorem d_M_isDotted_78 : decode b_M_isDotted 78 = .ok (.isub, 1) := by decide +kernel
theorem d_M_isDotted_79 : decode b_M_isDotted 79 = .ok (.iaload, 1) := by decide +kernel
theorem d_M_isDotted_80 : decode b_M_isDotted 80 = .ok (.bipush 46, 2) := by decide +kernel
theorem d_M_isDotted_82 : decode b_M_isDotted 82 = .ok (.if_icmp .eq 7, 3) := by decide +kernel
theorem d_M_isDotted_85 : decode b_M_isDotted 85 = .ok (.iconst 1, 1) := by decide +kernel
theorem d_M_isDotted_86 : decode b_M_isDotted 86 = .ok (.goto 68, 3) := by decide +kernel
theorem d_M_isDotted_89 : decode b_M_isDotted 89 = .ok (.iconst 0, 1) := by decide +kernel
theorem d_M_isDotted_90 : decode b_M_isDotted 90 = .ok (.goto 64, 3) := by decide +kernel
theorem d_M_isDotted_93 : decode b_M_isDotted 93 = .ok (.iload 4, 2) := by decide +kernel
theorem d_M_isDotted_95 : decode b_M_isDotted 95 = .ok (.ifCond .eq 16, 3) := by decide +kernel
theorem d_M_isDotted_98 : decode b_M_isDotted 98 = .ok (.aload_n 0, 1) := by decide +kernel
theorem d_M_isDotted_99 : decode b_M_isDotted 99 = .ok (.getfield 151, 3) := by decide +kernel
theorem d_M_isDotted_102 : decode b_M_isDotted 102 = .ok (.iload 6, 2) := by decide +kernel
theorem d_M_isDotted_104 : decode b_M_isDotted 104 = .ok (.iaload, 1) := by decide +kernel
theorem d_M_isDotted_105 : decode b_M_isDotted 105 = .ok (.invokestatic 305, 3) := by decide +kernel
theorem d_M_isDotted_108 : decode b_M_isDotted 108 = .ok (.goto 46, 3) := by decide +kernel
theorem d_M_isDotted_111 : decode b_M_isDotted 111 = .ok (.aload_n 0, 1) := by decide +kernel
theorem d_M_isDotted_112 : decode b_M_isDotted 112 = .ok (.getfield 151, 3) := by decide +kernel
theorem d_M_isDotted_115 : decode b_M_isDotted 115 = .ok (.iload 6, 2) := by decide +kernel
theorem d_M_isDotted_117 : decode b_M_isDotted 117 = .ok (.iaload, 1) := by decide +kernel
theorem d_M_isDotted_118 : decode b_M_isDotted 118 = .ok (.invokestatic 167, 3) := by decide +kernel
theorem d_M_isDotted_121 : decode b_M_isDotted 121 = .ok (.ifCond .ne 28, 3) := by decide +kernel
theorem d_M_isDotted_124 : decode b_M_isDotted 124 = .ok (.aload_n 0, 1) := by decide +kernel
theorem d_M_isDotted_125 : decode b_M_isDotted 125 = .ok (.getfield 151, 3) := by decide +kernel
theorem d_M_isDotted_128 : decode b_M_isDotted 128 = .ok (.iload 6, 2) := by decide +kernel
theorem d_M_isDotted_130 : decode b_M_isDotted 130 = .ok (.iaload, 1) := by decide +kernel
theorem d_M_isDotted_131 : decode b_M_isDotted 131 = .ok (.invokestatic 171, 3) := by decide +kernel
theorem d_M_isDotted_134 : decode b_M_isDotted 134 = .ok (.ifCond .ne 15, 3) := by decide +kernel
theorem d_M_isDotted_137 : decode b_M_isDotted 137 = .ok (.aload_n 0, 1) := by decide +kernel
theorem d_M_isDotted_138 : decode b_M_isDotted 138 = .ok (.getfield 151, 3) := by decide +kernel
theorem d_M_isDotted_141 : decode b_M_isDotted 141 = .ok (.iload 6, 2) := by decide +kernel
theorem d_M_isDotted_143 : decode b_M_isDotted 143 = .ok (.iaload, 1) := by decide +kernel
theorem d_M_isDotted_144 : decode b_M_isDotted 144 = .ok (.bipush 45, 2) := by decide +kernel
theorem d_M_isDotted_146 : decode b_M_isDotted 146 = .ok (.if_icmp .ne 7, 3) := by decide +kernel
theorem d_M_isDotted_149 : decode b_M_isDotted 149 = .ok (.iconst 1, 1) := by decide +kernel
theorem d_M_isDotted_150 : decode b_M_isDotted 150 = .ok (.goto 4, 3) := by decide +kernel
theorem d_M_isDotted_153 : decode b_M_isDotted 153 = .ok (.iconst 0, 1) := by decide +kernel
theorem d_M_isDotted_154 : decode b_M_isDotted 154 = .ok (.istore 5, 2) := by decide +kernel
theorem d_M_isDotted_156 : decode b_M_isDotted 156 = .ok (.iinc 6 1, 3) := by decide +kernel
theorem d_M_isDotted_159 : decode b_M_isDotted 159 = .ok (.goto (-137), 3) := by decide +kernel
theorem d_M_isDotted_162 : decode b_M_isDotted 162 = .ok (.iload 5, 2) := by decide +kernel
theorem d_M_isDotted_164 : decode b_M_isDotted 164 = .ok (.ireturn, 1) := by decide +kernel
theorem d_M_isLetter_0 : decode b_M_isLetter 0 = .ok (.iload_n 0, 1) := by decide +kernel
theorem d_M_isLetter_1 : decode b_M_isLetter 1 = .ok (.bipush 97, 2) := by decide +kernel
theorem d_M_isLetter_3 : decode b_M_isLetter 3 = .ok (.if_icmp .lt 9, 3) := by decide +kernel
theorem d_M_isLetter_6 : decode b_M_isLetter 6 = .ok (.iload_n 0, 1) := by decide +kernel
theorem d_M_isLetter_7 : decode b_M_isLetter 7 = .ok (.bipush 122, 2) := by decide +kernel
theorem d_M_isLetter_9 : decode b_M_isLetter 9 = .ok (.if_icmp .le 15, 3) := by decide +kernel
theorem d_M_isLetter_12 : decode b_M_isLetter 12 = .ok (.iload_n 0, 1) := by decide +kernel
theorem d_M_isLetter_13 : decode b_M_isLetter 13 = .ok (.bipush 65, 2) := by decide +kernel
theorem d_M_isLetter_15 : decode b_M_isLetter 15 = .ok (.if_icmp .lt 13, 3) := by decide +kernel
theorem d_M_isLetter_18 : decode b_M_isLetter 18 = .ok (.iload_n 0, 1) := by decide +kernel
theorem d_M_isLetter_19 : decode b_M_isLetter 19 = .ok (.bipush 90, 2) := by decide +kernel
theorem d_M_isLetter_21 : decode b_M_isLetter 21 = .ok (.if_icmp .gt 7, 3) := by decide +kernel
theorem d_M_isLetter_24 : decode b_M_isLetter 24 = .ok (.iconst 1, 1) := by decide +kernel
theorem d_M_isLetter_25 : decode b_M_isLetter 25 = .ok (.goto 4, 3) := by decide +kernel
theorem d_M_isLetter_28 : decode b_M_isLetter 28 = .ok (.iconst 0, 1) := by decide +kernel
theorem d_M_isLetter_29 : decode b_M_isLetter 29 = .ok (.ireturn, 1) := by decide +kernel
theorem d_M_isLocal_0 : decode b_M_isLocal 0 = .ok (.iload_n 0, 1) := by decide +kernel
theorem d_M_isLocal_1 : decode b_M_isLocal 1 = .ok (.bipush 33, 2) := by decide +kernel
theorem d_M_isLocal_3 : decode b_M_isLocal 3 = .ok (.if_icmp .eq 75, 3) := by decide +kernel
theorem d_M_isLocal_6 : decode b_M_isLocal 6 = .ok (.iload_n 0, 1) := by decide +kernel
theorem d_M_isLocal_7 : decode b_M_isLocal 7 = .ok (.bipush 35, 2) := by decide +kernel
theorem d_M_isLocal_9 : decode b_M_isLocal 9 = .ok (.if_icmp .lt 9, 3) := by decide +kernel
theorem d_M_isLocal_12 : decode b_M_isLocal 12 = .ok (.iload_n 0, 1) := by decide +kernel
theorem d_M_isLocal_13 : decode b_M_isLocal 13 = .ok (.bipush 39, 2) := by decide +kernel
theorem d_M_isLocal_15 : decode b_M_isLocal 15 = .ok (.if_icmp .le 63, 3) := by decide +kernel
theorem d_M_isLocal_18 : decode b_M_isLocal 18 = .ok (.iload_n 0, 1) := by decide +kernel
theorem d_M_isLocal_19 : decode b_M_isLocal 19 = .ok (.bipush 42, 2) := by decide +kernel
theorem d_M_isLocal_21 : decode b_M_isLocal 21 = .ok (.if_icmp .eq 57, 3) := by decide +kernel
theorem d_M_isLocal_24 : decode b_M_isLocal 24 = .ok (.iload_n 0, 1) := by decide +kernel
theorem d_M_isLocal_25 : decode b_M_isLocal 25 = .ok (.bipush 43, 2) := by decide +kernel
theorem d_M_isLocal_27 : decode b_M_isLocal 27 = .ok (.if_icmp .eq 51, 3) := by decide +kernel
theorem d_M_isLocal_30 : decode b_M_isLocal 30 = .ok (.iload_n 0, 1) := by decide +kernel
theorem d_M_isLocal_31 : decode b_M_isLocal 31 = .ok (.bipush 45, 2) := by decide +kernel
theorem d_M_isLocal_33 : decode b_M_isLocal 33 = .ok (.if_icmp .eq 45, 3) := by decide +kernel
theorem d_M_isLocal_36 : decode b_M_isLocal 36 = .ok (.iload_n 0, 1) := by decide +kernel
theorem d_M_isLocal_37 : decode b_M_isLocal 37 = .ok (.bipush 47, 2) := by decide +kernel
theorem d_M_isLocal_39 : decode b_M_isLocal 39 = .ok (.if_icmp .eq 39, 3) := by decide +kernel
theorem d_M_isLocal_42 : decode b_M_isLocal 42 = .ok (.iload_n 0, 1) := by decide +kernel
theorem d_M_isLocal_43 : decode b_M_isLocal 43 = .ok (.bipush 61, 2) := by decide +kernel
theorem d_M_isLocal_45 : decode b_M_isLocal 45 = .ok (.if_icmp .eq 33, 3) := by decide +kernel
theorem d_M_isLocal_48 : decode b_M_isLocal 48 = .ok (.iload_n 0, 1) := by decide +kernel
theorem d_M_isLocal_49 : decode b_M_isLocal 49 = .ok (.bipush 63, 2) := by decide +kernel
theorem d_M_isLocal_51 : decode b_M_isLocal 51 = .ok (.if_icmp .eq 27, 3) := by decide +kernel
theorem d_M_isLocal_54 : decode b_M_isLocal 54 = .ok (.iload_n 0, 1) := by decide +kernel
theorem d_M_isLocal_55 : decode b_M_isLocal 55 = .ok (.bipush 94, 2) := by decide +kernel
theorem d_M_isLocal_57 : decode b_M_isLocal 57 = .ok (.if_icmp .lt 9, 3) := by decide +kernel
theorem d_M_isLocal_60 : decode b_M_isLocal 60 = .ok (.iload_n 0, 1) := by decide +kernel
theorem d_M_isLocal_61 : decode b_M_isLocal 61 = .ok (.bipush 96, 2) := by decide +kernel
theorem d_M_isLocal_63 : decode b_M_isLocal 63 = .ok (.if_icmp .le 15, 3) := by decide +kernel
theorem d_M_isLocal_66 : decode b_M_isLocal 66 = .ok (.iload_n 0, 1) := by decide +kernel
theorem d_M_isLocal_67 : decode b_M_isLocal 67 = .ok (.bipush 123, 2) := by decide +kernel
theorem d_M_isLocal_69 : decode b_M_isLocal 69 = .ok (.if_icmp .lt 13, 3) := by decide +kernel
theorem d_M_isLocal_72 : decode b_M_isLocal 72 = .ok (.iload_n 0, 1) := by decide +kernel
theorem d_M_isLocal_73 : decode b_M_isLocal 73 = .ok (.bipush 126, 2) := by decide +kernel
theorem d_M_isLocal_75 : decode b_M_isLocal 75 = .ok (.if_icmp .gt 7, 3) := by decide +kernel
theorem d_M_isLocal_78 : decode b_M_isLocal 78 = .ok (.iconst 1, 1) := by decide +kernel
theorem d_M_isLocal_79 : decode b_M_isLocal 79 = .ok (.goto 4, 3) := by decide +kernel
theorem d_M_isLocal_82 : decode b_M_isLocal 82 = .ok (.iconst 0, 1) := by decide +kernel
theorem d_M_isLocal_83 : decode b_M_isLocal 83 = .ok (.istore_n 1, 1) := by decide +kernel
theorem d_M_isLocal_84 : decode b_M_isLocal 84 = .ok (.iload_n 0, 1) := by decide +kernel
theorem d_M_isLocal_85 : decode b_M_isLocal 85 = .ok (.invokestatic 167, 3) := by decide +kernel
theorem d_M_isLocal_88 : decode b_M_isLocal 88 = .ok (.ifCond .ne 14, 3) := by decide +kernel
theorem d_M_isLocal_91 : decode b_M_isLocal 91 = .ok (.iload_n 0, 1) := by decide +kernel
theorem d_M_isLocal_92 : decode b_M_isLocal 92 = .ok (.invokestatic 171, 3) := by decide +kernel
theorem d_M_isLocal_95 : decode b_M_isLocal 95 = .ok (.ifCond .ne 7, 3) := by decide +kernel
theorem d_M_isLocal_98 : decode b_M_isLocal 98 = .ok (.iload_n 1, 1) := by decide +kernel
theorem d_M_isLocal_99 : decode b_M_isLocal 99 = .ok (.ifCond .eq 7, 3) := by decide +kernel
theorem d_M_isLocal_102 : decode b_M_isLocal 102 = .ok (.iconst 1, 1) := by decide +kernel
theorem d_M_isLocal_103 : decode b_M_isLocal 103 = .ok (.goto 4, 3) := by decide +kernel
theorem d_M_isLocal_106 : decode b_M_isLocal 106 = .ok (.iconst 0, 1) := by decide +kernel
theorem d_M_isLocal_107 : decode b_M_isLocal 107 = .ok (.ireturn, 1) := by decide +kernel
theorem d_M_isSign_0 : decode b_M_isSign 0 = .ok (.aload_n 0, 1) := by decide +kernel
theorem d_M_isSign_1 : decode b_M_isSign 1 = .ok (.bipush 100, 2) := by decide +kernel
theorem d_M_isSign_3 : decode b_M_isSign 3 = .ok (.iload_n 1, 1) := by decide +kernel
theorem d_M_isSign_4 : decode b_M_isSign 4 = .ok (.iadd, 1) := by decide +kernel
theorem d_M_isSign_5 : decode b_M_isSign 5 = .ok (.invokevirtual 246, 3) := by decide +kernel
theorem d_M_isSign_8 : decode b_M_isSign 8 = .ok (.ireturn, 1) := by decide +kernel
theorem d_M_isWord_0 : decode b_M_isWord 0 = .ok (.aload_n 0, 1) := by decide +kernel
theorem d_M_isWord_1 : decode b_M_isWord 1 = .ok (.iconst 1, 1) := by decide +kernel
theorem d_M_isWord_2 : decode b_M_isWord 2 = .ok (.invokevirtual 246, 3) := by decide +kernel
theorem d_M_isWord_5 : decode b_M_isWord 5 = .ok (.ifCond .eq 15, 3) := by decide +kernel
theorem d_M_isWord_8 : decode b_M_isWord 8 = .ok (.aload_n 0, 1) := by decide +kernel
theorem d_M_isWord_9 : decode b_M_isWord 9 = .ok (.iload_n 1, 1) := by decide +kernel
theorem d_M_isWord_10 : decode b_M_isWord 10 = .ok (.invokevirtual 211, 3) := by decide +kernel
theorem d_M_isWord_13 : decode b_M_isWord 13 = .ok (.ifCond .eq 7, 3) := by decide +kernel
theorem d_M_isWord_16 : decode b_M_isWord 16 = .ok (.iconst 1, 1) := by decide +kernel
theorem d_M_isWord_17 : decode b_M_isWord 17 = .ok (.goto 4, 3) := by decide +kernel
theorem d_M_isWord_20 : decode b_M_isWord 20 = .ok (.iconst 0, 1) := by decide +kernel
theorem d_M_isWord_21 : decode b_M_isWord 21 = .ok (.ireturn, 1) := by decide +kernel
theorem d_M_isWordByte_0 : decode b_M_isWordByte 0 = .ok (.iload_n 0, 1) := by decide +kernel
theorem d_M_isWordByte_1 : decode b_M_isWordByte 1 = .ok (.invokestatic 167, 3) := by decide +kernel
theorem d_M_isWordByte_4 : decode b_M_isWordByte 4 = .ok (.ifCond .ne 16, 3) := by decide +kernel
theorem d_M_isWordByte_7 : decode b_M_isWordByte 7 = .ok (.iload_n 0, 1) := by decide +kernel
theorem d_M_isWordByte_8 : decode b_M_isWordByte 8 = .ok (.invokestatic 171, 3) := by decide +kernel
theorem d_M_isWordByte_11 : decode b_M_isWordByte 11 = .ok (.ifCond .ne 9, 3) := by decide +kernel
theorem d_M_isWordByte_14 : decode b_M_isWordByte 14 = .ok (.iload_n 0, 1) := by decide +kernel
theorem d_M_isWordByte_15 : decode b_M_isWordByte 15 = .ok (.bipush 95, 2) := by decide +kernel
theorem d_M_isWordByte_17 : decode b_M_isWordByte 17 = .ok (.if_icmp .ne 7, 3) := by decide +kernel
theorem d_M_isWordByte_20 : decode b_M_isWordByte 20 = .ok (.iconst 1, 1) := by decide +kernel
theorem d_M_isWordByte_21 : decode b_M_isWordByte 21 = .ok (.goto 4, 3) := by decide +kernel
theorem d_M_isWordByte_24 : decode b_M_isWordByte 24 = .ok (.iconst 0, 1) := by decide +kernel
theorem d_M_isWordByte_25 : decode b_M_isWordByte 25 = .ok (.ireturn, 1) := by decide +kernel
theorem d_M_like_0 : decode b_M_like 0 = .ok (.aload_n 0, 1) := by decide +kernel
theorem d_M_like_1 : decode b_M_like 1 = .ok (.iload_n 1, 1) := by decide +kernel
theorem d_M_like_2 : decode b_M_like 2 = .ok (.iconst 1, 1) := by decide +kernel
theorem d_M_like_3 : decode b_M_like 3 = .ok (.invokevirtual 181, 3) := by decide +kernel
theorem d_M_like_6 : decode b_M_like 6 = .ok (.iload_n 1, 1) := by decide +kernel
theorem d_M_like_7 : decode b_M_like 7 = .ok (.if_icmp .ne 7, 3) := by decide +kernel
theorem d_M_like_10 : decode b_M_like 10 = .ok (.iconst 1, 1) := by decide +kernel
theorem d_M_like_11 : decode b_M_like 11 = .ok (.goto 4, 3) := by decide +kernel
theorem d_M_like_14 : decode b_M_like 14 = .ok (.iconst 0, 1) := by decide +kernel
theorem d_M_like_15 : decode b_M_like 15 = .ok (.ireturn, 1) := by decide +kernel
theorem d_M_lines_0 : decode b_M_lines 0 = .ok (.aload_n 0, 1) := by decide +kernel
theorem d_M_lines_1 : decode b_M_lines 1 = .ok (.aload_n 0, 1) := by decide +kernel
theorem d_M_lines_2 : decode b_M_lines 2 = .ok (.getfield 164, 3) := by decide +kernel
theorem d_M_lines_5 : decode b_M_lines 5 = .ok (.iconst 1, 1) := by decide +kernel
theorem d_M_lines_6 : decode b_M_lines 6 = .ok (.iadd, 1) := by decide +kernel
theorem d_M_lines_7 : decode b_M_lines 7 = .ok (.putfield 164, 3) := by decide +kernel
theorem d_M_lines_10 : decode b_M_lines 10 = .ok (.aload_n 0, 1) := by decide +kernel
theorem d_M_lines_11 : decode b_M_lines 11 = .ok (.iconst 0, 1) := by decide +kernel
theorem d_M_lines_12 : decode b_M_lines 12 = .ok (.invokevirtual 185, 3) := by decide +kernel
theorem d_M_lines_15 : decode b_M_lines 15 = .ok (.bipush 32, 2) := by decide +kernel
theorem d_M_lines_17 : decode b_M_lines 17 = .ok (.if_icmp .eq 13, 3) := by decide +kernel
theorem d_M_lines_20 : decode b_M_lines 20 = .ok (.aload_n 0, 1) := by decide +kernel
theorem d_M_lines_21 : decode b_M_lines 21 = .ok (.iconst 0, 1) := by decide +kernel
theorem d_M_lines_22 : decode b_M_lines 22 = .ok (.invokevirtual 185, 3) := by decide +kernel
theorem d_M_lines_25 : decode b_M_lines 25 = .ok (.bipush 9, 2) := by decide +kernel
theorem d_M_lines_27 : decode b_M_lines 27 = .ok (.if_icmp .ne 16, 3) := by decide +kernel
theorem d_M_lines_30 : decode b_M_lines 30 = .ok (.aload_n 0, 1) := by decide +kernel
theorem d_M_lines_31 : decode b_M_lines 31 = .ok (.aload_n 0, 1) := by decide +kernel
theorem d_M_lines_32 : decode b_M_lines 32 = .ok (.getfield 164, 3) := by decide +kernel
theorem d_M_lines_35 : decode b_M_lines 35 = .ok (.iconst 1, 1) := by decide +kernel
theorem d_M_lines_36 : decode b_M_lines 36 = .ok (.iadd, 1) := by decide +kernel
theorem d_M_lines_37 : decode b_M_lines 37 = .ok (.putfield 164, 3) := by decide +kernel
theorem d_M_lines_40 : decode b_M_lines 40 = .ok (.goto (-30), 3) := by decide +kernel
theorem d_M_lines_43 : decode b_M_lines 43 = .ok (.aload_n 0, 1) := by decide +kernel
theorem d_M_lines_44 : decode b_M_lines 44 = .ok (.aload_n 0, 1) := by decide +kernel
theorem d_M_lines_45 : decode b_M_lines 45 = .ok (.getfield 164, 3) := by decide +kernel
theorem d_M_lines_48 : decode b_M_lines 48 = .ok (.invokevirtual 240, 3) := by decide +kernel
theorem d_M_lines_51 : decode b_M_lines 51 = .ok (.ifCond .ne 5, 3) := by decide +kernel
theorem d_M_lines_54 : decode b_M_lines 54 = .ok (.iconst 5, 1) := by decide +kernel
theorem d_M_lines_55 : decode b_M_lines 55 = .ok (.ireturn, 1) := by decide +kernel
theorem d_M_lines_56 : decode b_M_lines 56 = .ok (.aload_n 0, 1) := by decide +kernel
theorem d_M_lines_57 : decode b_M_lines 57 = .ok (.aload_n 0, 1) := by decide +kernel
theorem d_M_lines_58 : decode b_M_lines 58 = .ok (.getfield 164, 3) := by decide +kernel
theorem d_M_lines_61 : decode b_M_lines 61 = .ok (.aload_n 0, 1) := by decide +kernel
theorem d_M_lines_62 : decode b_M_lines 62 = .ok (.aload_n 0, 1) := by decide +kernel
theorem d_M_lines_63 : decode b_M_lines 63 = .ok (.getfield 164, 3) := by decide +kernel
theorem d_M_lines_66 : decode b_M_lines 66 = .ok (.invokevirtual 240, 3) := by decide +kernel
theorem d_M_lines_69 : decode b_M_lines 69 = .ok (.iadd, 1) := by decide +kernel
theorem d_M_lines_70 : decode b_M_lines 70 = .ok (.putfield 164, 3) := by decide +kernel
theorem d_M_lines_73 : decode b_M_lines 73 = .ok (.aload_n 0, 1) := by decide +kernel
theorem d_M_lines_74 : decode b_M_lines 74 = .ok (.invokevirtual 205, 3) := by decide +kernel
theorem d_M_lines_77 : decode b_M_lines 77 = .ok (.aload_n 0, 1) := by decide +kernel
theorem d_M_lines_78 : decode b_M_lines 78 = .ok (.iconst 0, 1) := by decide +kernel
theorem d_M_lines_79 : decode b_M_lines 79 = .ok (.invokevirtual 185, 3) := by decide +kernel
theorem d_M_lines_82 : decode b_M_lines 82 = .ok (.bipush 46, 2) := by decide +kernel
theorem d_M_lines_84 : decode b_M_lines 84 = .ok (.if_icmp .ne 16, 3) := by decide +kernel
theorem d_M_lines_87 : decode b_M_lines 87 = .ok (.aload_n 0, 1) := by decide +kernel
theorem d_M_lines_88 : decode b_M_lines 88 = .ok (.aload_n 0, 1) := by decide +kernel
theorem d_M_lines_89 : decode b_M_lines 89 = .ok (.getfield 164, 3) := by decide +kernel
theorem d_M_lines_92 : decode b_M_lines 92 = .ok (.iconst 1, 1) := by decide +kernel
theorem d_M_lines_93 : decode b_M_lines 93 = .ok (.iadd, 1) := by decide +kernel
theorem d_M_lines_94 : decode b_M_lines 94 = .ok (.invokevirtual 240, 3) := by decide +kernel
theorem d_M_lines_97 : decode b_M_lines 97 = .ok (.ifCond .gt 124, 3) := by decide +kernel
theorem d_M_lines_100 : decode b_M_lines 100 = .ok (.aload_n 0, 1) := by decide +kernel
theorem d_M_lines_101 : decode b_M_lines 101 = .ok (.iconst 0, 1) := by decide +kernel
theorem d_M_lines_102 : decode b_M_lines 102 = .ok (.invokevirtual 185, 3) := by decide +kernel
theorem d_M_lines_105 : decode b_M_lines 105 = .ok (.bipush 46, 2) := by decide +kernel
theorem d_M_lines_107 : decode b_M_lines 107 = .ok (.if_icmp .ne 23, 3) := by decide +kernel
theorem d_M_lines_110 : decode b_M_lines 110 = .ok (.aload_n 0, 1) := by decide +kernel
theorem d_M_lines_111 : decode b_M_lines 111 = .ok (.iconst 1, 1) := by decide +kernel
theorem d_M_lines_112 : decode b_M_lines 112 = .ok (.invokevirtual 185, 3) := by decide +kernel
theorem d_M_lines_115 : decode b_M_lines 115 = .ok (.bipush 46, 2) := by decide +kernel
theorem d_M_lines_117 : decode b_M_lines 117 = .ok (.if_icmp .ne 13, 3) := by decide +kernel
theorem d_M_lines_120 : decode b_M_lines 120 = .ok (.aload_n 0, 1) := by decide +kernel
theorem d_M_lines_121 : decode b_M_lines 121 = .ok (.aload_n 0, 1) := by decide +kernel
theorem d_M_lines_122 : decode b_M_lines 122 = .ok (.getfield 164, 3) := by decide +kernel
theorem d_M_lines_125 : decode b_M_lines 125 = .ok (.iconst 1, 1) := by decide +kernel
theorem d_M_lines_126 : decode b_M_lines 126 = .ok (.iadd, 1) := by decide +kernel
theorem d_M_lines_127 : decode b_M_lines 127 = .ok (.putfield 164, 3) := by decide +kernel
theorem d_M_lines_130 : decode b_M_lines 130 = .ok (.aload_n 0, 1) := by decide +kernel
theorem d_M_lines_131 : decode b_M_lines 131 = .ok (.iconst 0, 1) := by decide +kernel
theorem d_M_lines_132 : decode b_M_lines 132 = .ok (.invokevirtual 185, 3) := by decide +kernel
theorem d_M_lines_135 : decode b_M_lines 135 = .ok (.ifCond .lt 36, 3) := by decide +kernel
theorem d_M_lines_138 : decode b_M_lines 138 = .ok (.aload_n 0, 1) := by decide +kernel
theorem d_M_lines_139 : decode b_M_lines 139 = .ok (.aload_n 0, 1) := by decide +kernel
theorem d_M_lines_140 : decode b_M_lines 140 = .ok (.getfield 164, 3) := by decide +kernel
theorem d_M_lines_143 : decode b_M_lines 143 = .ok (.invokevirtual 240, 3) := by decide +kernel
theorem d_M_lines_146 : decode b_M_lines 146 = .ok (.ifCond .ne 25, 3) := by decide +kernel
theorem d_M_lines_149 : decode b_M_lines 149 = .ok (.aload_n 0, 1) := by decide +kernel
theorem d_M_lines_150 : decode b_M_lines 150 = .ok (.aload_n 0, 1) := by decide +kernel
theorem d_M_lines_151 : decode b_M_lines 151 = .ok (.iconst 0, 1) := by decide +kernel
theorem d_M_lines_152 : decode b_M_lines 152 = .ok (.invokevirtual 185, 3) := by decide +kernel
theorem d_M_lines_155 : decode b_M_lines 155 = .ok (.invokevirtual 226, 3) := by decide +kernel
theorem d_M_lines_158 : decode b_M_lines 158 = .ok (.aload_n 0, 1) := by decide +kernel
theorem d_M_lines_159 : decode b_M_lines 159 = .ok (.aload_n 0, 1) := by decide +kernel
theorem d_M_lines_160 : decode b_M_lines 160 = .ok (.getfield 164, 3) := by decide +kernel
theorem d_M_lines_163 : decode b_M_lines 163 = .ok (.iconst 1, 1) := by decide +kernel
theorem d_M_lines_164 : decode b_M_lines 164 = .ok (.iadd, 1) := by decide +kernel
theorem d_M_lines_165 : decode b_M_lines 165 = .ok (.putfield 164, 3) := by decide +kernel
theorem d_M_lines_168 : decode b_M_lines 168 = .ok (.goto (-38), 3) := by decide +kernel
theorem d_M_lines_171 : decode b_M_lines 171 = .ok (.aload_n 0, 1) := by decide +kernel
theorem d_M_lines_172 : decode b_M_lines 172 = .ok (.aload_n 0, 1) := by decide +kernel
theorem d_M_lines_173 : decode b_M_lines 173 = .ok (.getfield 164, 3) := by decide +kernel
theorem d_M_lines_176 : decode b_M_lines 176 = .ok (.invokevirtual 240, 3) := by decide +kernel
theorem d_M_lines_179 : decode b_M_lines 179 = .ok (.istore_n 1, 1) := by decide +kernel
theorem d_M_lines_180 : decode b_M_lines 180 = .ok (.iload_n 1, 1) := by decide +kernel
theorem d_M_lines_181 : decode b_M_lines 181 = .ok (.ifCond .ne 5, 3) := by decide +kernel
theorem d_M_lines_184 : decode b_M_lines 184 = .ok (.iconst 5, 1) := by decide +kernel
theorem d_M_lines_185 : decode b_M_lines 185 = .ok (.ireturn, 1) := by decide +kernel
theorem d_M_lines_186 : decode b_M_lines 186 = .ok (.iconst 0, 1) := by decide +kernel
theorem d_M_lines_187 : decode b_M_lines 187 = .ok (.istore_n 2, 1) := by decide +kernel
theorem d_M_lines_188 : decode b_M_lines 188 = .ok (.iload_n 2, 1) := by decide +kernel
theorem d_M_lines_189 : decode b_M_lines 189 = .ok (.iload_n 1, 1) := by decide +kernel
theorem d_M_lines_190 : decode b_M_lines 190 = .ok (.if_icmp .ge 28, 3) := by decide +kernel
theorem d_M_lines_193 : decode b_M_lines 193 = .ok (.aload_n 0, 1) := by decide +kernel
theorem d_M_lines_194 : decode b_M_lines 194 = .ok (.aload_n 0, 1) := by decide +kernel
theorem d_M_lines_195 : decode b_M_lines 195 = .ok (.iconst 0, 1) := by decide +kernel
theorem d_M_lines_196 : decode b_M_lines 196 = .ok (.invokevirtual 185, 3) := by decide +kernel
theorem d_M_lines_199 : decode b_M_lines 199 = .ok (.invokevirtual 226, 3) := by decide +kernel
theorem d_M_lines_202 : decode b_M_lines 202 = .ok (.aload_n 0, 1) := by decide +kernel
theorem d_M_lines_203 : decode b_M_lines 203 = .ok (.aload_n 0, 1) := by decide +kernel
theorem d_M_lines_204 : decode b_M_lines 204 = .ok (.getfield 164, 3) := by decide +kernel
theorem d_M_lines_207 : decode b_M_lines 207 = .ok (.iconst 1, 1) := by decide +kernel
theorem d_M_lines_208 : decode b_M_lines 208 = .ok (.iadd, 1) := by decide +kernel
theorem d_M_lines_209 : decode b_M_lines 209 = .ok (.putfield 164, 3) := by decide +kernel
theorem d_M_lines_212 : decode b_M_lines 212 = .ok (.iinc 2 1, 3) := by decide +kernel
theorem d_M_lines_215 : decode b_M_lines 215 = .ok (.goto (-27), 3) := by decide +kernel
theorem d_M_lines_218 : decode b_M_lines 218 = .ok (.goto (-141), 3) := by decide +kernel
theorem d_M_lines_221 : decode b_M_lines 221 = .ok (.aload_n 0, 1) := by decide +kernel
theorem d_M_lines_222 : decode b_M_lines 222 = .ok (.aload_n 0, 1) := by decide +kernel
theorem d_M_lines_223 : decode b_M_lines 223 = .ok (.getfield 164, 3) := by decide +kernel
theorem d_M_lines_226 : decode b_M_lines 226 = .ok (.iconst 1, 1) := by decide +kernel
theorem d_M_lines_227 : decode b_M_lines 227 = .ok (.iadd, 1) := by decide +kernel
theorem d_M_lines_228 : decode b_M_lines 228 = .ok (.aload_n 0, 1) := by decide +kernel
theorem d_M_lines_229 : decode b_M_lines 229 = .ok (.aload_n 0, 1) := by decide +kernel
theorem d_M_lines_230 : decode b_M_lines 230 = .ok (.getfield 164, 3) := by decide +kernel
theorem d_M_lines_233 : decode b_M_lines 233 = .ok (.iconst 1, 1) := by decide +kernel
theorem d_M_lines_234 : decode b_M_lines 234 = .ok (.iadd, 1) := by decide +kernel
theorem d_M_lines_235 : decode b_M_lines 235 = .ok (.invokevirtual 240, 3) := by decide +kernel
theorem d_M_lines_238 : decode b_M_lines 238 = .ok (.iadd, 1) := by decide +kernel
theorem d_M_lines_239 : decode b_M_lines 239 = .ok (.putfield 164, 3) := by decide +kernel
theorem d_M_lines_242 : decode b_M_lines 242 = .ok (.iconst 4, 1) := by decide +kernel
theorem d_M_lines_243 : decode b_M_lines 243 = .ok (.ireturn, 1) := by decide +kernel
theorem d_M_list_0 : decode b_M_list 0 = .ok (.aload_n 0, 1) := by decide +kernel
theorem d_M_list_1 : decode b_M_list 1 = .ok (.bipush 91, 2) := by decide +kernel
theorem d_M_list_3 : decode b_M_list 3 = .ok (.invokevirtual 249, 3) := by decide +kernel
theorem d_M_list_6 : decode b_M_list 6 = .ok (.istore_n 2, 1) := by decide +kernel
theorem d_M_list_7 : decode b_M_list 7 = .ok (.iload_n 2, 1) := by decide +kernel
theorem d_M_list_8 : decode b_M_list 8 = .ok (.ifCond .eq 7, 3) := by decide +kernel
theorem d_M_list_11 : decode b_M_list 11 = .ok (.aload_n 0, 1) := by decide +kernel
theorem d_M_list_12 : decode b_M_list 12 = .ok (.invokevirtual 252, 3) := by decide +kernel
theorem d_M_list_15 : decode b_M_list 15 = .ok (.iconst 0, 1) := by decide +kernel
theorem d_M_list_16 : decode b_M_list 16 = .ok (.istore_n 3, 1) := by decide +kernel
theorem d_M_list_17 : decode b_M_list 17 = .ok (.iconst 1, 1) := by decide +kernel
theorem d_M_list_18 : decode b_M_list 18 = .ok (.istore 4, 2) := by decide +kernel
theorem d_M_list_20 : decode b_M_list 20 = .ok (.iload 4, 2) := by decide +kernel
theorem d_M_list_22 : decode b_M_list 22 = .ok (.ifCond .eq 84, 3) := by decide +kernel
theorem d_M_list_25 : decode b_M_list 25 = .ok (.aload_n 0, 1) := by decide +kernel
theorem d_M_list_26 : decode b_M_list 26 = .ok (.getfield 154, 3) := by decide +kernel
theorem d_M_list_29 : decode b_M_list 29 = .ok (.ifCond .ge 77, 3) := by decide +kernel
theorem d_M_list_32 : decode b_M_list 32 = .ok (.iload_n 2, 1) := by decide +kernel
theorem d_M_list_33 : decode b_M_list 33 = .ok (.ifCond .eq 21, 3) := by decide +kernel
theorem d_M_list_36 : decode b_M_list 36 = .ok (.aload_n 0, 1) := by decide +kernel
theorem d_M_list_37 : decode b_M_list 37 = .ok (.iconst 4, 1) := by decide +kernel
theorem d_M_list_38 : decode b_M_list 38 = .ok (.invokevirtual 246, 3) := by decide +kernel
theorem d_M_list_41 : decode b_M_list 41 = .ok (.ifCond .eq 13, 3) := by decide +kernel
theorem d_M_list_44 : decode b_M_list 44 = .ok (.iload_n 3, 1) := by decide +kernel
theorem d_M_list_45 : decode b_M_list 45 = .ok (.bipush 10, 2) := by decide +kernel
theorem d_M_list_47 : decode b_M_list 47 = .ok (.if_icmp .ne 7, 3) := by decide +kernel
theorem d_M_list_50 : decode b_M_list 50 = .ok (.aload_n 0, 1) := by decide +kernel
theorem d_M_list_51 : decode b_M_list 51 = .ok (.invokevirtual 202, 3) := by decide +kernel
theorem d_M_list_54 : decode b_M_list 54 = .ok (.aload_n 0, 1) := by decide +kernel
theorem d_M_list_55 : decode b_M_list 55 = .ok (.invokevirtual 267, 3) := by decide +kernel
theorem d_M_list_58 : decode b_M_list 58 = .ok (.iload_n 1, 1) := by decide +kernel
theorem d_M_list_59 : decode b_M_list 59 = .ok (.ifCond .eq 7, 3) := by decide +kernel
theorem d_M_list_62 : decode b_M_list 62 = .ok (.aload_n 0, 1) := by decide +kernel
theorem d_M_list_63 : decode b_M_list 63 = .ok (.invokevirtual 270, 3) := by decide +kernel
theorem d_M_list_66 : decode b_M_list 66 = .ok (.aload_n 0, 1) := by decide +kernel
theorem d_M_list_67 : decode b_M_list 67 = .ok (.invokevirtual 252, 3) := by decide +kernel
theorem d_M_list_70 : decode b_M_list 70 = .ok (.iload_n 3, 1) := by decide +kernel
theorem d_M_list_71 : decode b_M_list 71 = .ok (.iconst 1, 1) := by decide +kernel
theorem d_M_list_72 : decode b_M_list 72 = .ok (.iadd, 1) := by decide +kernel
theorem d_M_list_73 : decode b_M_list 73 = .ok (.istore_n 3, 1) := by decide +kernel
theorem d_M_list_74 : decode b_M_list 74 = .ok (.iload_n 2, 1) := by decide +kernel
theorem d_M_list_75 : decode b_M_list 75 = .ok (.ifCond .eq 16, 3) := by decide +kernel
theorem d_M_list_78 : decode b_M_list 78 = .ok (.aload_n 0, 1) := by decide +kernel
theorem d_M_list_79 : decode b_M_list 79 = .ok (.bipush 44, 2) := by decide +kernel
theorem d_M_list_81 : decode b_M_list 81 = .ok (.invokevirtual 249, 3) := by decide +kernel
theorem d_M_list_84 : decode b_M_list 84 = .ok (.ifCond .eq 7, 3) := by decide +kernel
theorem d_M_list_87 : decode b_M_list 87 = .ok (.iconst 1, 1) := by decide +kernel
theorem d_M_list_88 : decode b_M_list 88 = .ok (.goto 4, 3) := by decide +kernel
theorem d_M_list_91 : decode b_M_list 91 = .ok (.iconst 0, 1) := by decide +kernel
theorem d_M_list_92 : decode b_M_list 92 = .ok (.istore 4, 2) := by decide +kernel
theorem d_M_list_94 : decode b_M_list 94 = .ok (.iload 4, 2) := by decide +kernel
theorem d_M_list_96 : decode b_M_list 96 = .ok (.ifCond .eq (-76), 3) := by decide +kernel
theorem d_M_list_99 : decode b_M_list 99 = .ok (.aload_n 0, 1) := by decide +kernel
theorem d_M_list_100 : decode b_M_list 100 = .ok (.invokevirtual 252, 3) := by decide +kernel
theorem d_M_list_103 : decode b_M_list 103 = .ok (.goto (-83), 3) := by decide +kernel
theorem d_M_list_106 : decode b_M_list 106 = .ok (.iload_n 2, 1) := by decide +kernel
theorem d_M_list_107 : decode b_M_list 107 = .ok (.ifCond .eq 9, 3) := by decide +kernel
theorem d_M_list_110 : decode b_M_list 110 = .ok (.aload_n 0, 1) := by decide +kernel
theorem d_M_list_111 : decode b_M_list 111 = .ok (.bipush 93, 2) := by decide +kernel
theorem d_M_list_113 : decode b_M_list 113 = .ok (.invokevirtual 273, 3) := by decide +kernel
theorem d_M_list_116 : decode b_M_list 116 = .ok (.return_, 1) := by decide +kernel
theorem d_M_low_0 : decode b_M_low 0 = .ok (.iload_n 0, 1) := by decide +kernel
theorem d_M_low_1 : decode b_M_low 1 = .ok (.bipush 65, 2) := by decide +kernel
theorem d_M_low_3 : decode b_M_low 3 = .ok (.if_icmp .lt 16, 3) := by decide +kernel
theorem d_M_low_6 : decode b_M_low 6 = .ok (.iload_n 0, 1) := by decide +kernel
theorem d_M_low_7 : decode b_M_low 7 = .ok (.bipush 90, 2) := by decide +kernel
theorem d_M_low_9 : decode b_M_low 9 = .ok (.if_icmp .gt 10, 3) := by decide +kernel
theorem d_M_low_12 : decode b_M_low 12 = .ok (.iload_n 0, 1) := by decide +kernel
theorem d_M_low_13 : decode b_M_low 13 = .ok (.bipush 32, 2) := by decide +kernel
theorem d_M_low_15 : decode b_M_low 15 = .ok (.iadd, 1) := by decide +kernel
theorem d_M_low_16 : decode b_M_low 16 = .ok (.goto 4, 3) := by decide +kernel
theorem d_M_low_19 : decode b_M_low 19 = .ok (.iload_n 0, 1) := by decide +kernel
theorem d_M_low_20 : decode b_M_low 20 = .ok (.ireturn, 1) := by decide +kernel
theorem d_M_needs_0 : decode b_M_needs 0 = .ok (.aload_n 0, 1) := by decide +kernel
theorem d_M_needs_1 : decode b_M_needs 1 = .ok (.getfield 255, 3) := by decide +kernel
theorem d_M_needs_4 : decode b_M_needs 4 = .ok (.iload_n 1, 1) := by decide +kernel
theorem d_M_needs_5 : decode b_M_needs 5 = .ok (.iand, 1) := by decide +kernel
theorem d_M_needs_6 : decode b_M_needs 6 = .ok (.ifCond .ne 7, 3) := by decide +kernel
theorem d_M_needs_9 : decode b_M_needs 9 = .ok (.aload_n 0, 1) := by decide +kernel
theorem d_M_needs_10 : decode b_M_needs 10 = .ok (.invokevirtual 202, 3) := by decide +kernel
theorem d_M_needs_13 : decode b_M_needs 13 = .ok (.return_, 1) := by decide +kernel
theorem d_M_next_0 : decode b_M_next 0 = .ok (.aload_n 0, 1) := by decide +kernel
theorem d_M_next_1 : decode b_M_next 1 = .ok (.getfield 154, 3) := by decide +kernel
theorem d_M_next_4 : decode b_M_next 4 = .ok (.ifCond .lt 4, 3) := by decide +kernel
theorem d_M_next_7 : decode b_M_next 7 = .ok (.return_, 1) := by decide +kernel
theorem d_M_next_8 : decode b_M_next 8 = .ok (.aload_n 0, 1) := by decide +kernel
theorem d_M_next_9 : decode b_M_next 9 = .ok (.invokevirtual 188, 3) := by decide +kernel
theorem d_M_next_12 : decode b_M_next 12 = .ok (.istore_n 1, 1) := by decide +kernel
theorem d_M_next_13 : decode b_M_next 13 = .ok (.aload_n 0, 1) := by decide +kernel
theorem d_M_next_14 : decode b_M_next 14 = .ok (.aload_n 0, 1) := by decide +kernel
theorem d_M_next_15 : decode b_M_next 15 = .ok (.getfield 164, 3) := by decide +kernel
theorem d_M_next_18 : decode b_M_next 18 = .ok (.putfield 192, 3) := by decide +kernel
theorem d_M_next_21 : decode b_M_next 21 = .ok (.aload_n 0, 1) := by decide +kernel
theorem d_M_next_22 : decode b_M_next 22 = .ok (.iload_n 1, 1) := by decide +kernel
theorem d_M_next_23 : decode b_M_next 23 = .ok (.ifCond .eq 10, 3) := by decide +kernel
theorem d_M_next_26 : decode b_M_next 26 = .ok (.aload_n 0, 1) := by decide +kernel
theorem d_M_next_27 : decode b_M_next 27 = .ok (.invokevirtual 195, 3) := by decide +kernel
theorem d_M_next_30 : decode b_M_next 30 = .ok (.goto 4, 3) := by decide +kernel
theorem d_M_next_33 : decode b_M_next 33 = .ok (.iconst 5, 1) := by decide +kernel
theorem d_M_next_34 : decode b_M_next 34 = .ok (.putfield 199, 3) := by decide +kernel
theorem d_M_next_37 : decode b_M_next 37 = .ok (.aload_n 0, 1) := by decide +kernel
theorem d_M_next_38 : decode b_M_next 38 = .ok (.getfield 199, 3) := by decide +kernel
theorem d_M_next_41 : decode b_M_next 41 = .ok (.iconst 5, 1) := by decide +kernel
theorem d_M_next_42 : decode b_M_next 42 = .ok (.if_icmp .ne 7, 3) := by decide +kernel
theorem d_M_next_45 : decode b_M_next 45 = .ok (.aload_n 0, 1) := by decide +kernel
theorem d_M_next_46 : decode b_M_next 46 = .ok (.invokevirtual 202, 3) := by decide +kernel
theorem d_M_next_49 : decode b_M_next 49 = .ok (.return_, 1) := by decide +kernel
theorem d_M_number_0 : decode b_M_number 0 = .ok (.aload_n 0, 1) := by decide +kernel
theorem d_M_number_1 : decode b_M_number 1 = .ok (.iconst 3, 1) := by decide +kernel
theorem d_M_number_2 : decode b_M_number 2 = .ok (.invokevirtual 246, 3) := by decide +kernel
theorem d_M_number_5 : decode b_M_number 5 = .ok (.ifCond .ne 7, 3) := by decide +kernel
theorem d_M_number_8 : decode b_M_number 8 = .ok (.aload_n 0, 1) := by decide +kernel
theorem d_M_number_9 : decode b_M_number 9 = .ok (.invokevirtual 202, 3) := by decide +kernel
theorem d_M_number_12 : decode b_M_number 12 = .ok (.aload_n 0, 1) := by decide +kernel
theorem d_M_number_13 : decode b_M_number 13 = .ok (.invokevirtual 252, 3) := by decide +kernel
theorem d_M_number_16 : decode b_M_number 16 = .ok (.return_, 1) := by decide +kernel
theorem d_M_one_0 : decode b_M_one 0 = .ok (.aload_n 0, 1) := by decide +kernel
theorem d_M_one_1 : decode b_M_one 1 = .ok (.invokevirtual 267, 3) := by decide +kernel
theorem d_M_one_4 : decode b_M_one 4 = .ok (.aload_n 0, 1) := by decide +kernel
theorem d_M_one_5 : decode b_M_one 5 = .ok (.iload_n 1, 1) := by decide +kernel
theorem d_M_one_6 : decode b_M_one 6 = .ok (.iload_n 2, 1) := by decide +kernel
theorem d_M_one_7 : decode b_M_one 7 = .ok (.invokevirtual 181, 3) := by decide +kernel
theorem d_M_one_10 : decode b_M_one 10 = .ok (.istore_n 3, 1) := by decide +kernel
theorem d_M_one_11 : decode b_M_one 11 = .ok (.iload_n 3, 1) := by decide +kernel
theorem d_M_one_12 : decode b_M_one 12 = .ok (.ifCond .ge 7, 3) := by decide +kernel
theorem d_M_one_15 : decode b_M_one 15 = .ok (.aload_n 0, 1) := by decide +kernel
theorem d_M_one_16 : decode b_M_one 16 = .ok (.invokevirtual 202, 3) := by decide +kernel
theorem d_M_one_19 : decode b_M_one 19 = .ok (.iload_n 3, 1) := by decide +kernel
theorem d_M_one_20 : decode b_M_one 20 = .ok (.bipush 50, 2) := by decide +kernel
theorem d_M_one_22 : decode b_M_one 22 = .ok (.if_icmp .ne 10, 3) := by decide +kernel
theorem d_M_one_25 : decode b_M_one 25 = .ok (.aload_n 0, 1) := by decide +kernel
theorem d_M_one_26 : decode b_M_one 26 = .ok (.sipush 128, 3) := by decide +kernel
theorem d_M_one_29 : decode b_M_one 29 = .ok (.invokevirtual 258, 3) := by decide +kernel
theorem d_M_one_32 : decode b_M_one 32 = .ok (.aload_n 0, 1) := by decide +kernel
theorem d_M_one_33 : decode b_M_one 33 = .ok (.invokevirtual 252, 3) := by decide +kernel
theorem d_M_one_36 : decode b_M_one 36 = .ok (.return_, 1) := by decide +kernel
theorem d_M_peek_0 : decode b_M_peek 0 = .ok (.aload_n 0, 1) := by decide +kernel
theorem d_M_peek_1 : decode b_M_peek 1 = .ok (.getfield 164, 3) := by decide +kernel
theorem d_M_peek_4 : decode b_M_peek 4 = .ok (.iload_n 1, 1) := by decide +kernel
theorem d_M_peek_5 : decode b_M_peek 5 = .ok (.iadd, 1) := by decide +kernel
theorem d_M_peek_6 : decode b_M_peek 6 = .ok (.aload_n 0, 1) := by decide +kernel
theorem d_M_peek_7 : decode b_M_peek 7 = .ok (.getfield 161, 3) := by decide +kernel
theorem d_M_peek_10 : decode b_M_peek 10 = .ok (.if_icmp .ge 17, 3) := by decide +kernel
theorem d_M_peek_13 : decode b_M_peek 13 = .ok (.aload_n 0, 1) := by decide +kernel
theorem d_M_peek_14 : decode b_M_peek 14 = .ok (.getfield 145, 3) := by decide +kernel
theorem d_M_peek_17 : decode b_M_peek 17 = .ok (.aload_n 0, 1) := by decide +kernel
theorem d_M_peek_18 : decode b_M_peek 18 = .ok (.getfield 164, 3) := by decide +kernel
theorem d_M_peek_21 : decode b_M_peek 21 = .ok (.iload_n 1, 1) := by decide +kernel
theorem d_M_peek_22 : decode b_M_peek 22 = .ok (.iadd, 1) := by decide +kernel
theorem d_M_peek_23 : decode b_M_peek 23 = .ok (.iaload, 1) := by decide +kernel
theorem d_M_peek_24 : decode b_M_peek 24 = .ok (.goto 4, 3) := by decide +kernel
theorem d_M_peek_27 : decode b_M_peek 27 = .ok (.iconst (-1), 1) := by decide +kernel
theorem d_M_peek_28 : decode b_M_peek 28 = .ok (.ireturn, 1) := by decide +kernel
theorem d_M_place_0 : decode b_M_place 0 = .ok (.aload_n 0, 1) := by decide +kernel
theorem d_M_place_1 : decode b_M_place 1 = .ok (.getfield 154, 3) := by decide +kernel
theorem d_M_place_4 : decode b_M_place 4 = .ok (.ireturn, 1) := by decide +kernel
theorem d_M_push_0 : decode b_M_push 0 = .ok (.aload_n 0, 1) := by decide +kernel
theorem d_M_push_1 : decode b_M_push 1 = .ok (.getfield 154, 3) := by decide +kernel
theorem d_M_push_4 : decode b_M_push 4 = .ok (.ifCond .lt 4, 3) := by decide +kernel
theorem d_M_push_7 : decode b_M_push 7 = .ok (.return_, 1) := by decide +kernel
theorem d_M_push_8 : decode b_M_push 8 = .ok (.aload_n 0, 1) := by decide +kernel
theorem d_M_push_9 : decode b_M_push 9 = .ok (.getfield 158, 3) := by decide +kernel
theorem d_M_push_12 : decode b_M_push 12 = .ok (.aload_n 0, 1) := by decide +kernel
theorem d_M_push_13 : decode b_M_push 13 = .ok (.getfield 243, 3) := by decide +kernel
theorem d_M_push_16 : decode b_M_push 16 = .ok (.iload_n 1, 1) := by decide +kernel
theorem d_M_push_17 : decode b_M_push 17 = .ok (.iastore, 1) := by decide +kernel
theorem d_M_push_18 : decode b_M_push 18 = .ok (.aload_n 0, 1) := by decide +kernel
theorem d_M_push_19 : decode b_M_push 19 = .ok (.aload_n 0, 1) := by decide +kernel
theorem d_M_push_20 : decode b_M_push 20 = .ok (.getfield 243, 3) := by decide +kernel
theorem d_M_push_23 : decode b_M_push 23 = .ok (.iconst 1, 1) := by decide +kernel
theorem d_M_push_24 : decode b_M_push 24 = .ok (.iadd, 1) := by decide +kernel
theorem d_M_push_25 : decode b_M_push 25 = .ok (.putfield 243, 3) := by decide +kernel
theorem d_M_push_28 : decode b_M_push 28 = .ok (.return_, 1) := by decide +kernel
theorem d_M_put_0 : decode b_M_put 0 = .ok (.iload_n 3, 1) := by decide +kernel
theorem d_M_put_1 : decode b_M_put 1 = .ok (.iconst 1, 1) := by decide +kernel
theorem d_M_put_2 : decode b_M_put 2 = .ok (.if_icmp .lt 21, 3) := by decide +kernel
theorem d_M_put_5 : decode b_M_put 5 = .ok (.iload_n 3, 1) := by decide +kernel
theorem d_M_put_6 : decode b_M_put 6 = .ok (.bipush 8, 2) := by decide +kernel
theorem d_M_put_8 : decode b_M_put 8 = .ok (.if_icmp .gt 15, 3) := by decide +kernel
theorem d_M_put_11 : decode b_M_put 11 = .ok (.aload_n 0, 1) := by decide +kernel
theorem d_M_put_12 : decode b_M_put 12 = .ok (.getfield 161, 3) := by decide +kernel
theorem d_M_put_15 : decode b_M_put 15 = .ok (.iload_n 3, 1) := by decide +kernel
theorem d_M_put_16 : decode b_M_put 16 = .ok (.iadd, 1) := by decide +kernel
theorem d_M_put_17 : decode b_M_put 17 = .ok (.sipush 400, 3) := by decide +kernel
theorem d_M_put_20 : decode b_M_put 20 = .ok (.if_icmp .le 5, 3) := by decide +kernel
theorem d_M_put_23 : decode b_M_put 23 = .ok (.iconst 0, 1) := by decide +kernel
theorem d_M_put_24 : decode b_M_put 24 = .ok (.ireturn, 1) := by decide +kernel
theorem d_M_put_25 : decode b_M_put 25 = .ok (.iload_n 3, 1) := by decide +kernel
theorem d_M_put_26 : decode b_M_put 26 = .ok (.iconst 1, 1) := by decide +kernel
theorem d_M_put_27 : decode b_M_put 27 = .ok (.isub, 1) := by decide +kernel
theorem d_M_put_28 : decode b_M_put 28 = .ok (.istore 4, 2) := by decide +kernel
theorem d_M_put_30 : decode b_M_put 30 = .ok (.iload 4, 2) := by decide +kernel
theorem d_M_put_32 : decode b_M_put 32 = .ok (.ifCond .lt 40, 3) := by decide +kernel
theorem d_M_put_35 : decode b_M_put 35 = .ok (.aload_n 0, 1) := by decide +kernel
theorem d_M_put_36 : decode b_M_put 36 = .ok (.getfield 145, 3) := by decide +kernel
theorem d_M_put_39 : decode b_M_put 39 = .ok (.aload_n 0, 1) := by decide +kernel
theorem d_M_put_40 : decode b_M_put 40 = .ok (.getfield 161, 3) := by decide +kernel
theorem d_M_put_43 : decode b_M_put 43 = .ok (.lload_n 1, 1) := by decide +kernel
theorem d_M_put_44 : decode b_M_put 44 = .ok (.bipush 8, 2) := by decide +kernel
theorem d_M_put_46 : decode b_M_put 46 = .ok (.iload 4, 2) := by decide +kernel
theorem d_M_put_48 : decode b_M_put 48 = .ok (.imul, 1) := by decide +kernel
theorem d_M_put_49 : decode b_M_put 49 = .ok (.lshr, 1) := by decide +kernel
theorem d_M_put_50 : decode b_M_put 50 = .ok (.l2i, 1) := by decide +kernel
theorem d_M_put_51 : decode b_M_put 51 = .ok (.sipush 255, 3) := by decide +kernel
theorem d_M_put_54 : decode b_M_put 54 = .ok (.iand, 1) := by decide +kernel
theorem d_M_put_55 : decode b_M_put 55 = .ok (.iastore, 1) := by decide +kernel
theorem d_M_put_56 : decode b_M_put 56 = .ok (.aload_n 0, 1) := by decide +kernel
theorem d_M_put_57 : decode b_M_put 57 = .ok (.aload_n 0, 1) := by decide +kernel
theorem d_M_put_58 : decode b_M_put 58 = .ok (.getfield 161, 3) := by decide +kernel
theorem d_M_put_61 : decode b_M_put 61 = .ok (.iconst 1, 1) := by decide +kernel
theorem d_M_put_62 : decode b_M_put 62 = .ok (.iadd, 1) := by decide +kernel
theorem d_M_put_63 : decode b_M_put 63 = .ok (.putfield 161, 3) := by decide +kernel
theorem d_M_put_66 : decode b_M_put 66 = .ok (.iinc 4 (-1), 3) := by decide +kernel
theorem d_M_put_69 : decode b_M_put 69 = .ok (.goto (-39), 3) := by decide +kernel
theorem d_M_put_72 : decode b_M_put 72 = .ok (.iconst 1, 1) := by decide +kernel
theorem d_M_put_73 : decode b_M_put 73 = .ok (.ireturn, 1) := by decide +kernel
theorem d_M_quoted_0 : decode b_M_quoted 0 = .ok (.aload_n 0, 1) := by decide +kernel
theorem d_M_quoted_1 : decode b_M_quoted 1 = .ok (.aload_n 0, 1) := by decide +kernel
theorem d_M_quoted_2 : decode b_M_quoted 2 = .ok (.getfield 164, 3) := by decide +kernel
theorem d_M_quoted_5 : decode b_M_quoted 5 = .ok (.iconst 1, 1) := by decide +kernel
theorem d_M_quoted_6 : decode b_M_quoted 6 = .ok (.iadd, 1) := by decide +kernel
theorem d_M_quoted_7 : decode b_M_quoted 7 = .ok (.putfield 164, 3) := by decide +kernel
theorem d_M_quoted_10 : decode b_M_quoted 10 = .ok (.aload_n 0, 1) := by decide +kernel
theorem d_M_quoted_11 : decode b_M_quoted 11 = .ok (.iconst 0, 1) := by decide +kernel
theorem d_M_quoted_12 : decode b_M_quoted 12 = .ok (.invokevirtual 185, 3) := by decide +kernel
theorem d_M_quoted_15 : decode b_M_quoted 15 = .ok (.bipush 34, 2) := by decide +kernel
theorem d_M_quoted_17 : decode b_M_quoted 17 = .ok (.if_icmp .eq 65, 3) := by decide +kernel
theorem d_M_quoted_20 : decode b_M_quoted 20 = .ok (.aload_n 0, 1) := by decide +kernel
theorem d_M_quoted_21 : decode b_M_quoted 21 = .ok (.iconst 0, 1) := by decide +kernel
theorem d_M_quoted_22 : decode b_M_quoted 22 = .ok (.invokevirtual 185, 3) := by decide +kernel
theorem d_M_quoted_25 : decode b_M_quoted 25 = .ok (.bipush 92, 2) := by decide +kernel
theorem d_M_quoted_27 : decode b_M_quoted 27 = .ok (.if_icmp .ne 13, 3) := by decide +kernel
theorem d_M_quoted_30 : decode b_M_quoted 30 = .ok (.aload_n 0, 1) := by decide +kernel
theorem d_M_quoted_31 : decode b_M_quoted 31 = .ok (.aload_n 0, 1) := by decide +kernel
theorem d_M_quoted_32 : decode b_M_quoted 32 = .ok (.getfield 164, 3) := by decide +kernel
theorem d_M_quoted_35 : decode b_M_quoted 35 = .ok (.iconst 1, 1) := by decide +kernel
theorem d_M_quoted_36 : decode b_M_quoted 36 = .ok (.iadd, 1) := by decide +kernel
theorem d_M_quoted_37 : decode b_M_quoted 37 = .ok (.putfield 164, 3) := by decide +kernel
theorem d_M_quoted_40 : decode b_M_quoted 40 = .ok (.aload_n 0, 1) := by decide +kernel
theorem d_M_quoted_41 : decode b_M_quoted 41 = .ok (.iconst 0, 1) := by decide +kernel
theorem d_M_quoted_42 : decode b_M_quoted 42 = .ok (.invokevirtual 185, 3) := by decide +kernel
theorem d_M_quoted_45 : decode b_M_quoted 45 = .ok (.ifCond .lt 13, 3) := by decide +kernel
theorem d_M_quoted_48 : decode b_M_quoted 48 = .ok (.aload_n 0, 1) := by decide +kernel
theorem d_M_quoted_49 : decode b_M_quoted 49 = .ok (.getfield 174, 3) := by decide +kernel
theorem d_M_quoted_52 : decode b_M_quoted 52 = .ok (.sipush 200, 3) := by decide +kernel
theorem d_M_quoted_55 : decode b_M_quoted 55 = .ok (.if_icmp .ne 5, 3) := by decide +kernel
theorem d_M_quoted_58 : decode b_M_quoted 58 = .ok (.iconst 5, 1) := by decide +kernel
theorem d_M_quoted_59 : decode b_M_quoted 59 = .ok (.ireturn, 1) := by decide +kernel
theorem d_M_quoted_60 : decode b_M_quoted 60 = .ok (.aload_n 0, 1) := by decide +kernel
theorem d_M_quoted_61 : decode b_M_quoted 61 = .ok (.aload_n 0, 1) := by decide +kernel
theorem d_M_quoted_62 : decode b_M_quoted 62 = .ok (.iconst 0, 1) := by decide +kernel
theorem d_M_quoted_63 : decode b_M_quoted 63 = .ok (.invokevirtual 185, 3) := by decide +kernel
theorem d_M_quoted_66 : decode b_M_quoted 66 = .ok (.invokevirtual 226, 3) := by decide +kernel
theorem d_M_quoted_69 : decode b_M_quoted 69 = .ok (.aload_n 0, 1) := by decide +kernel
theorem d_M_quoted_70 : decode b_M_quoted 70 = .ok (.aload_n 0, 1) := by decide +kernel
theorem d_M_quoted_71 : decode b_M_quoted 71 = .ok (.getfield 164, 3) := by decide +kernel
theorem d_M_quoted_74 : decode b_M_quoted 74 = .ok (.iconst 1, 1) := by decide +kernel
theorem d_M_quoted_75 : decode b_M_quoted 75 = .ok (.iadd, 1) := by decide +kernel
theorem d_M_quoted_76 : decode b_M_quoted 76 = .ok (.putfield 164, 3) := by decide +kernel
theorem d_M_quoted_79 : decode b_M_quoted 79 = .ok (.goto (-69), 3) := by decide +kernel
theorem d_M_quoted_82 : decode b_M_quoted 82 = .ok (.aload_n 0, 1) := by decide +kernel
theorem d_M_quoted_83 : decode b_M_quoted 83 = .ok (.aload_n 0, 1) := by decide +kernel
theorem d_M_quoted_84 : decode b_M_quoted 84 = .ok (.getfield 164, 3) := by decide +kernel
theorem d_M_quoted_87 : decode b_M_quoted 87 = .ok (.iconst 1, 1) := by decide +kernel
theorem d_M_quoted_88 : decode b_M_quoted 88 = .ok (.iadd, 1) := by decide +kernel
theorem d_M_quoted_89 : decode b_M_quoted 89 = .ok (.putfield 164, 3) := by decide +kernel
theorem d_M_quoted_92 : decode b_M_quoted 92 = .ok (.iconst 4, 1) := by decide +kernel
theorem d_M_quoted_93 : decode b_M_quoted 93 = .ok (.ireturn, 1) := by decide +kernel
theorem d_M_redirect_0 : decode b_M_redirect 0 = .ok (.aload_n 0, 1) := by decide +kernel
theorem d_M_redirect_1 : decode b_M_redirect 1 = .ok (.invokevirtual 267, 3) := by decide +kernel
theorem d_M_redirect_4 : decode b_M_redirect 4 = .ok (.iconst 0, 1) := by decide +kernel
theorem d_M_redirect_5 : decode b_M_redirect 5 = .ok (.istore_n 1, 1) := by decide +kernel
theorem d_M_redirect_6 : decode b_M_redirect 6 = .ok (.iload_n 1, 1) := by decide +kernel
theorem d_M_redirect_7 : decode b_M_redirect 7 = .ok (.aload_n 0, 1) := by decide +kernel
theorem d_M_redirect_8 : decode b_M_redirect 8 = .ok (.getfield 174, 3) := by decide +kernel
theorem d_M_redirect_11 : decode b_M_redirect 11 = .ok (.if_icmp .ge 21, 3) := by decide +kernel
theorem d_M_redirect_14 : decode b_M_redirect 14 = .ok (.aload_n 0, 1) := by decide +kernel
theorem d_M_redirect_15 : decode b_M_redirect 15 = .ok (.getfield 151, 3) := by decide +kernel
theorem d_M_redirect_18 : decode b_M_redirect 18 = .ok (.iload_n 1, 1) := by decide +kernel
theorem d_M_redirect_19 : decode b_M_redirect 19 = .ok (.iaload, 1) := by decide +kernel
theorem d_M_redirect_20 : decode b_M_redirect 20 = .ok (.bipush 64, 2) := by decide +kernel
theorem d_M_redirect_22 : decode b_M_redirect 22 = .ok (.if_icmp .eq 10, 3) := by decide +kernel
theorem d_M_redirect_25 : decode b_M_redirect 25 = .ok (.iload_n 1, 1) := by decide +kernel
theorem d_M_redirect_26 : decode b_M_redirect 26 = .ok (.iconst 1, 1) := by decide +kernel
theorem d_M_redirect_27 : decode b_M_redirect 27 = .ok (.iadd, 1) := by decide +kernel
theorem d_M_redirect_28 : decode b_M_redirect 28 = .ok (.istore_n 1, 1) := by decide +kernel
theorem d_M_redirect_29 : decode b_M_redirect 29 = .ok (.goto (-23), 3) := by decide +kernel
theorem d_M_redirect_32 : decode b_M_redirect 32 = .ok (.iload_n 1, 1) := by decide +kernel
theorem d_M_redirect_33 : decode b_M_redirect 33 = .ok (.aload_n 0, 1) := by decide +kernel
theorem d_M_redirect_34 : decode b_M_redirect 34 = .ok (.getfield 174, 3) := by decide +kernel
theorem d_M_redirect_37 : decode b_M_redirect 37 = .ok (.if_icmp .eq 32, 3) := by decide +kernel
theorem d_M_redirect_40 : decode b_M_redirect 40 = .ok (.aload_n 0, 1) := by decide +kernel
theorem d_M_redirect_41 : decode b_M_redirect 41 = .ok (.iconst 0, 1) := by decide +kernel
theorem d_M_redirect_42 : decode b_M_redirect 42 = .ok (.iload_n 1, 1) := by decide +kernel
theorem d_M_redirect_43 : decode b_M_redirect 43 = .ok (.bipush 40, 2) := by decide +kernel
theorem d_M_redirect_45 : decode b_M_redirect 45 = .ok (.iconst 1, 1) := by decide +kernel
theorem d_M_redirect_46 : decode b_M_redirect 46 = .ok (.invokevirtual 301, 3) := by decide +kernel
theorem d_M_redirect_49 : decode b_M_redirect 49 = .ok (.ifCond .eq 20, 3) := by decide +kernel
theorem d_M_redirect_52 : decode b_M_redirect 52 = .ok (.aload_n 0, 1) := by decide +kernel
theorem d_M_redirect_53 : decode b_M_redirect 53 = .ok (.iload_n 1, 1) := by decide +kernel
theorem d_M_redirect_54 : decode b_M_redirect 54 = .ok (.iconst 1, 1) := by decide +kernel
theorem d_M_redirect_55 : decode b_M_redirect 55 = .ok (.iadd, 1) := by decide +kernel
theorem d_M_redirect_56 : decode b_M_redirect 56 = .ok (.aload_n 0, 1) := by decide +kernel
theorem d_M_redirect_57 : decode b_M_redirect 57 = .ok (.getfield 174, 3) := by decide +kernel
theorem d_M_redirect_60 : decode b_M_redirect 60 = .ok (.bipush 60, 2) := by decide +kernel
theorem d_M_redirect_62 : decode b_M_redirect 62 = .ok (.iconst 0, 1) := by decide +kernel
theorem d_M_redirect_63 : decode b_M_redirect 63 = .ok (.invokevirtual 301, 3) := by decide +kernel
theorem d_M_redirect_66 : decode b_M_redirect 66 = .ok (.ifCond .ne 7, 3) := by decide +kernel
theorem d_M_redirect_69 : decode b_M_redirect 69 = .ok (.aload_n 0, 1) := by decide +kernel
theorem d_M_redirect_70 : decode b_M_redirect 70 = .ok (.invokevirtual 202, 3) := by decide +kernel
theorem d_M_redirect_73 : decode b_M_redirect 73 = .ok (.aload_n 0, 1) := by decide +kernel
theorem d_M_redirect_74 : decode b_M_redirect 74 = .ok (.invokevirtual 252, 3) := by decide +kernel
theorem d_M_redirect_77 : decode b_M_redirect 77 = .ok (.return_, 1) := by decide +kernel
theorem d_M_require_0 : decode b_M_require 0 = .ok (.aload_n 0, 1) := by decide +kernel
theorem d_M_require_1 : decode b_M_require 1 = .ok (.getfield 154, 3) := by decide +kernel
theorem d_M_require_4 : decode b_M_require 4 = .ok (.ifCond .lt 4, 3) := by decide +kernel
theorem d_M_require_7 : decode b_M_require 7 = .ok (.return_, 1) := by decide +kernel
theorem d_M_require_8 : decode b_M_require 8 = .ok (.aload_n 0, 1) := by decide +kernel
theorem d_M_require_9 : decode b_M_require 9 = .ok (.bipush 7, 2) := by decide +kernel
theorem d_M_require_11 : decode b_M_require 11 = .ok (.invokevirtual 211, 3) := by decide +kernel
theorem d_M_require_14 : decode b_M_require 14 = .ok (.ifCond .eq 7, 3) := by decide +kernel
theorem d_M_require_17 : decode b_M_require 17 = .ok (.iconst 1, 1) := by decide +kernel
theorem d_M_require_18 : decode b_M_require 18 = .ok (.goto 101, 3) := by decide +kernel
theorem d_M_require_21 : decode b_M_require 21 = .ok (.aload_n 0, 1) := by decide +kernel
theorem d_M_require_22 : decode b_M_require 22 = .ok (.bipush 9, 2) := by decide +kernel
theorem d_M_require_24 : decode b_M_require 24 = .ok (.invokevirtual 211, 3) := by decide +kernel
theorem d_M_require_27 : decode b_M_require 27 = .ok (.ifCond .eq 7, 3) := by decide +kernel
theorem d_M_require_30 : decode b_M_require 30 = .ok (.iconst 2, 1) := by decide +kernel
theorem d_M_require_31 : decode b_M_require 31 = .ok (.goto 88, 3) := by decide +kernel
theorem d_M_require_34 : decode b_M_require 34 = .ok (.aload_n 0, 1) := by decide +kernel
theorem d_M_require_35 : decode b_M_require 35 = .ok (.bipush 16, 2) := by decide +kernel
theorem d_M_require_37 : decode b_M_require 37 = .ok (.invokevirtual 211, 3) := by decide +kernel
theorem d_M_require_40 : decode b_M_require 40 = .ok (.ifCond .eq 7, 3) := by decide +kernel
theorem d_M_require_43 : decode b_M_require 43 = .ok (.iconst 4, 1) := by decide +kernel
theorem d_M_require_44 : decode b_M_require 44 = .ok (.goto 75, 3) := by decide +kernel
theorem d_M_require_47 : decode b_M_require 47 = .ok (.aload_n 0, 1) := by decide +kernel
theorem d_M_require_48 : decode b_M_require 48 = .ok (.bipush 26, 2) := by decide +kernel
theorem d_M_require_50 : decode b_M_require 50 = .ok (.invokevirtual 211, 3) := by decide +kernel
theorem d_M_require_53 : decode b_M_require 53 = .ok (.ifCond .eq 8, 3) := by decide +kernel
theorem d_M_require_56 : decode b_M_require 56 = .ok (.bipush 8, 2) := by decide +kernel
theorem d_M_require_58 : decode b_M_require 58 = .ok (.goto 61, 3) := by decide +kernel
theorem d_M_require_61 : decode b_M_require 61 = .ok (.aload_n 0, 1) := by decide +kernel
theorem d_M_require_62 : decode b_M_require 62 = .ok (.bipush 51, 2) := by decide +kernel
theorem d_M_require_64 : decode b_M_require 64 = .ok (.invokevirtual 211, 3) := by decide +kernel
theorem d_M_require_67 : decode b_M_require 67 = .ok (.ifCond .eq 8, 3) := by decide +kernel
theorem d_M_require_70 : decode b_M_require 70 = .ok (.bipush 16, 2) := by decide +kernel
theorem d_M_require_72 : decode b_M_require 72 = .ok (.goto 47, 3) := by decide +kernel
theorem d_M_require_75 : decode b_M_require 75 = .ok (.aload_n 0, 1) := by decide +kernel
theorem d_M_require_76 : decode b_M_require 76 = .ok (.bipush 52, 2) := by decide +kernel
theorem d_M_require_78 : decode b_M_require 78 = .ok (.invokevirtual 211, 3) := by decide +kernel
theorem d_M_require_81 : decode b_M_require 81 = .ok (.ifCond .eq 8, 3) := by decide +kernel
theorem d_M_require_84 : decode b_M_require 84 = .ok (.bipush 32, 2) := by decide +kernel
theorem d_M_require_86 : decode b_M_require 86 = .ok (.goto 33, 3) := by decide +kernel
theorem d_M_require_89 : decode b_M_require 89 = .ok (.aload_n 0, 1) := by decide +kernel
theorem d_M_require_90 : decode b_M_require 90 = .ok (.bipush 13, 2) := by decide +kernel
theorem d_M_require_92 : decode b_M_require 92 = .ok (.invokevirtual 211, 3) := by decide +kernel
theorem d_M_require_95 : decode b_M_require 95 = .ok (.ifCond .eq 8, 3) := by decide +kernel
theorem d_M_require_98 : decode b_M_require 98 = .ok (.bipush 64, 2) := by decide +kernel
theorem d_M_require_100 : decode b_M_require 100 = .ok (.goto 19, 3) := by decide +kernel
theorem d_M_require_103 : decode b_M_require 103 = .ok (.aload_n 0, 1) := by decide +kernel
theorem d_M_require_104 : decode b_M_require 104 = .ok (.bipush 53, 2) := by decide +kernel
theorem d_M_require_106 : decode b_M_require 106 = .ok (.invokevirtual 211, 3) := by decide +kernel
theorem d_M_require_109 : decode b_M_require 109 = .ok (.ifCond .eq 9, 3) := by decide +kernel
theorem d_M_require_112 : decode b_M_require 112 = .ok (.sipush 128, 3) := by decide +kernel
theorem d_M_require_115 : decode b_M_require 115 = .ok (.goto 4, 3) := by decide +kernel
theorem d_M_require_118 : decode b_M_require 118 = .ok (.iconst 0, 1) := by decide +kernel
theorem d_M_require_119 : decode b_M_require 119 = .ok (.istore_n 1, 1) := by decide +kernel
theorem d_M_require_120 : decode b_M_require 120 = .ok (.iload_n 1, 1) := by decide +kernel
theorem d_M_require_121 : decode b_M_require 121 = .ok (.ifCond .ne 7, 3) := by decide +kernel
theorem d_M_require_124 : decode b_M_require 124 = .ok (.aload_n 0, 1) := by decide +kernel
theorem d_M_require_125 : decode b_M_require 125 = .ok (.invokevirtual 202, 3) := by decide +kernel
theorem d_M_require_128 : decode b_M_require 128 = .ok (.aload_n 0, 1) := by decide +kernel
theorem d_M_require_129 : decode b_M_require 129 = .ok (.aload_n 0, 1) := by decide +kernel
theorem d_M_require_130 : decode b_M_require 130 = .ok (.getfield 255, 3) := by decide +kernel
theorem d_M_require_133 : decode b_M_require 133 = .ok (.iload_n 1, 1) := by decide +kernel
theorem d_M_require_134 : decode b_M_require 134 = .ok (.ior, 1) := by decide +kernel
theorem d_M_require_135 : decode b_M_require 135 = .ok (.putfield 255, 3) := by decide +kernel
theorem d_M_require_138 : decode b_M_require 138 = .ok (.return_, 1) := by decide +kernel
theorem d_M_skip_0 : decode b_M_skip 0 = .ok (.iconst 1, 1) := by decide +kernel
theorem d_M_skip_1 : decode b_M_skip 1 = .ok (.istore_n 1, 1) := by decide +kernel
theorem d_M_skip_2 : decode b_M_skip 2 = .ok (.iload_n 1, 1) := by decide +kernel
theorem d_M_skip_3 : decode b_M_skip 3 = .ok (.ifCond .eq 174, 3) := by decide +kernel
theorem d_M_skip_6 : decode b_M_skip 6 = .ok (.aload_n 0, 1) := by decide +kernel
theorem d_M_skip_7 : decode b_M_skip 7 = .ok (.iconst 0, 1) := by decide +kernel
theorem d_M_skip_8 : decode b_M_skip 8 = .ok (.invokevirtual 185, 3) := by decide +kernel
theorem d_M_skip_11 : decode b_M_skip 11 = .ok (.istore_n 2, 1) := by decide +kernel
theorem d_M_skip_12 : decode b_M_skip 12 = .ok (.iload_n 2, 1) := by decide +kernel
theorem d_M_skip_13 : decode b_M_skip 13 = .ok (.bipush 9, 2) := by decide +kernel
theorem d_M_skip_15 : decode b_M_skip 15 = .ok (.if_icmp .eq 21, 3) := by decide +kernel
theorem d_M_skip_18 : decode b_M_skip 18 = .ok (.iload_n 2, 1) := by decide +kernel
theorem d_M_skip_19 : decode b_M_skip 19 = .ok (.bipush 10, 2) := by decide +kernel
theorem d_M_skip_21 : decode b_M_skip 21 = .ok (.if_icmp .eq 15, 3) := by decide +kernel
theorem d_M_skip_24 : decode b_M_skip 24 = .ok (.iload_n 2, 1) := by decide +kernel
theorem d_M_skip_25 : decode b_M_skip 25 = .ok (.bipush 13, 2) := by decide +kernel
theorem d_M_skip_27 : decode b_M_skip 27 = .ok (.if_icmp .eq 9, 3) := by decide +kernel
theorem d_M_skip_30 : decode b_M_skip 30 = .ok (.iload_n 2, 1) := by decide +kernel
theorem d_M_skip_31 : decode b_M_skip 31 = .ok (.bipush 32, 2) := by decide +kernel
theorem d_M_skip_33 : decode b_M_skip 33 = .ok (.if_icmp .ne 16, 3) := by decide +kernel
theorem d_M_skip_36 : decode b_M_skip 36 = .ok (.aload_n 0, 1) := by decide +kernel
theorem d_M_skip_37 : decode b_M_skip 37 = .ok (.aload_n 0, 1) := by decide +kernel
theorem d_M_skip_38 : decode b_M_skip 38 = .ok (.getfield 164, 3) := by decide +kernel
theorem d_M_skip_41 : decode b_M_skip 41 = .ok (.iconst 1, 1) := by decide +kernel
theorem d_M_skip_42 : decode b_M_skip 42 = .ok (.iadd, 1) := by decide +kernel
theorem d_M_skip_43 : decode b_M_skip 43 = .ok (.putfield 164, 3) := by decide +kernel
theorem d_M_skip_46 : decode b_M_skip 46 = .ok (.goto 128, 3) := by decide +kernel
theorem d_M_skip_49 : decode b_M_skip 49 = .ok (.iload_n 2, 1) := by decide +kernel
theorem d_M_skip_50 : decode b_M_skip 50 = .ok (.bipush 35, 2) := by decide +kernel
theorem d_M_skip_52 : decode b_M_skip 52 = .ok (.if_icmp .ne 34, 3) := by decide +kernel
theorem d_M_skip_55 : decode b_M_skip 55 = .ok (.aload_n 0, 1) := by decide +kernel
theorem d_M_skip_56 : decode b_M_skip 56 = .ok (.iconst 0, 1) := by decide +kernel
theorem d_M_skip_57 : decode b_M_skip 57 = .ok (.invokevirtual 185, 3) := by decide +kernel
theorem d_M_skip_60 : decode b_M_skip 60 = .ok (.ifCond .lt 114, 3) := by decide +kernel
theorem d_M_skip_63 : decode b_M_skip 63 = .ok (.aload_n 0, 1) := by decide +kernel
theorem d_M_skip_64 : decode b_M_skip 64 = .ok (.iconst 0, 1) := by decide +kernel
theorem d_M_skip_65 : decode b_M_skip 65 = .ok (.invokevirtual 185, 3) := by decide +kernel
theorem d_M_skip_68 : decode b_M_skip 68 = .ok (.bipush 10, 2) := by decide +kernel
theorem d_M_skip_70 : decode b_M_skip 70 = .ok (.if_icmp .eq 104, 3) := by decide +kernel
theorem d_M_skip_73 : decode b_M_skip 73 = .ok (.aload_n 0, 1) := by decide +kernel
theorem d_M_skip_74 : decode b_M_skip 74 = .ok (.aload_n 0, 1) := by decide +kernel
theorem d_M_skip_75 : decode b_M_skip 75 = .ok (.getfield 164, 3) := by decide +kernel
theorem d_M_skip_78 : decode b_M_skip 78 = .ok (.iconst 1, 1) := by decide +kernel
theorem d_M_skip_79 : decode b_M_skip 79 = .ok (.iadd, 1) := by decide +kernel
theorem d_M_skip_80 : decode b_M_skip 80 = .ok (.putfield 164, 3) := by decide +kernel
theorem d_M_skip_83 : decode b_M_skip 83 = .ok (.goto (-28), 3) := by decide +kernel
theorem d_M_skip_86 : decode b_M_skip 86 = .ok (.iload_n 2, 1) := by decide +kernel
theorem d_M_skip_87 : decode b_M_skip 87 = .ok (.bipush 47, 2) := by decide +kernel
theorem d_M_skip_89 : decode b_M_skip 89 = .ok (.if_icmp .ne 83, 3) := by decide +kernel
theorem d_M_skip_92 : decode b_M_skip 92 = .ok (.aload_n 0, 1) := by decide +kernel
theorem d_M_skip_93 : decode b_M_skip 93 = .ok (.iconst 1, 1) := by decide +kernel
theorem d_M_skip_94 : decode b_M_skip 94 = .ok (.invokevirtual 185, 3) := by decide +kernel
theorem d_M_skip_97 : decode b_M_skip 97 = .ok (.bipush 42, 2) := by decide +kernel
theorem d_M_skip_99 : decode b_M_skip 99 = .ok (.if_icmp .ne 73, 3) := by decide +kernel
theorem d_M_skip_102 : decode b_M_skip 102 = .ok (.aload_n 0, 1) := by decide +kernel
theorem d_M_skip_103 : decode b_M_skip 103 = .ok (.getfield 164, 3) := by decide +kernel
theorem d_M_skip_106 : decode b_M_skip 106 = .ok (.iconst 2, 1) := by decide +kernel
theorem d_M_skip_107 : decode b_M_skip 107 = .ok (.iadd, 1) := by decide +kernel
theorem d_M_skip_108 : decode b_M_skip 108 = .ok (.istore_n 3, 1) := by decide +kernel
theorem d_M_skip_109 : decode b_M_skip 109 = .ok (.iload_n 3, 1) := by decide +kernel
theorem d_M_skip_110 : decode b_M_skip 110 = .ok (.iconst 1, 1) := by decide +kernel
theorem d_M_skip_111 : decode b_M_skip 111 = .ok (.iadd, 1) := by decide +kernel
theorem d_M_skip_112 : decode b_M_skip 112 = .ok (.aload_n 0, 1) := by decide +kernel
theorem d_M_skip_113 : decode b_M_skip 113 = .ok (.getfield 161, 3) := by decide +kernel
theorem d_M_skip_116 : decode b_M_skip 116 = .ok (.if_icmp .ge 34, 3) := by decide +kernel
theorem d_M_skip_119 : decode b_M_skip 119 = .ok (.aload_n 0, 1) := by decide +kernel
theorem d_M_skip_120 : decode b_M_skip 120 = .ok (.getfield 145, 3) := by decide +kernel
theorem d_M_skip_123 : decode b_M_skip 123 = .ok (.iload_n 3, 1) := by decide +kernel
theorem d_M_skip_124 : decode b_M_skip 124 = .ok (.iaload, 1) := by decide +kernel
theorem d_M_skip_125 : decode b_M_skip 125 = .ok (.bipush 42, 2) := by decide +kernel
theorem d_M_skip_127 : decode b_M_skip 127 = .ok (.if_icmp .ne 16, 3) := by decide +kernel
theorem d_M_skip_130 : decode b_M_skip 130 = .ok (.aload_n 0, 1) := by decide +kernel
theorem d_M_skip_131 : decode b_M_skip 131 = .ok (.getfield 145, 3) := by decide +kernel
theorem d_M_skip_134 : decode b_M_skip 134 = .ok (.iload_n 3, 1) := by decide +kernel
theorem d_M_skip_135 : decode b_M_skip 135 = .ok (.iconst 1, 1) := by decide +kernel
theorem d_M_skip_136 : decode b_M_skip 136 = .ok (.iadd, 1) := by decide +kernel
theorem d_M_skip_137 : decode b_M_skip 137 = .ok (.iaload, 1) := by decide +kernel
theorem d_M_skip_138 : decode b_M_skip 138 = .ok (.bipush 47, 2) := by decide +kernel
theorem d_M_skip_140 : decode b_M_skip 140 = .ok (.if_icmp .eq 10, 3) := by decide +kernel
theorem d_M_skip_143 : decode b_M_skip 143 = .ok (.iload_n 3, 1) := by decide +kernel
theorem d_M_skip_144 : decode b_M_skip 144 = .ok (.iconst 1, 1) := by decide +kernel
theorem d_M_skip_145 : decode b_M_skip 145 = .ok (.iadd, 1) := by decide +kernel
theorem d_M_skip_146 : decode b_M_skip 146 = .ok (.istore_n 3, 1) := by decide +kernel
theorem d_M_skip_147 : decode b_M_skip 147 = .ok (.goto (-38), 3) := by decide +kernel
theorem d_M_skip_150 : decode b_M_skip 150 = .ok (.iload_n 3, 1) := by decide +kernel
theorem d_M_skip_151 : decode b_M_skip 151 = .ok (.iconst 1, 1) := by decide +kernel
theorem d_M_skip_152 : decode b_M_skip 152 = .ok (.iadd, 1) := by decide +kernel
theorem d_M_skip_153 : decode b_M_skip 153 = .ok (.aload_n 0, 1) := by decide +kernel
theorem d_M_skip_154 : decode b_M_skip 154 = .ok (.getfield 161, 3) := by decide +kernel
theorem d_M_skip_157 : decode b_M_skip 157 = .ok (.if_icmp .lt 5, 3) := by decide +kernel
theorem d_M_skip_160 : decode b_M_skip 160 = .ok (.iconst 0, 1) := by decide +kernel
theorem d_M_skip_161 : decode b_M_skip 161 = .ok (.ireturn, 1) := by decide +kernel
theorem d_M_skip_162 : decode b_M_skip 162 = .ok (.aload_n 0, 1) := by decide +kernel
theorem d_M_skip_163 : decode b_M_skip 163 = .ok (.iload_n 3, 1) := by decide +kernel
theorem d_M_skip_164 : decode b_M_skip 164 = .ok (.iconst 2, 1) := by decide +kernel
theorem d_M_skip_165 : decode b_M_skip 165 = .ok (.iadd, 1) := by decide +kernel
theorem d_M_skip_166 : decode b_M_skip 166 = .ok (.putfield 164, 3) := by decide +kernel
theorem d_M_skip_169 : decode b_M_skip 169 = .ok (.goto 5, 3) := by decide +kernel
theorem d_M_skip_172 : decode b_M_skip 172 = .ok (.iconst 0, 1) := by decide +kernel
theorem d_M_skip_173 : decode b_M_skip 173 = .ok (.istore_n 1, 1) := by decide +kernel
theorem d_M_skip_174 : decode b_M_skip 174 = .ok (.goto (-172), 3) := by decide +kernel
theorem d_M_skip_177 : decode b_M_skip 177 = .ok (.iconst 1, 1) := by decide +kernel
theorem d_M_skip_178 : decode b_M_skip 178 = .ok (.ireturn, 1) := by decide +kernel
theorem d_M_step_0 : decode b_M_step 0 = .ok (.iload_n 1, 1) := by decide +kernel
theorem d_M_step_1 : decode b_M_step 1 = .ok (.tableswitch 224 0 5 #[39, 39, 94, 138, 186, 191], 39) := by decide +kernel
theorem d_M_step_40 : decode b_M_step 40 = .ok (.aload_n 0, 1) := by decide +kernel
theorem d_M_step_41 : decode b_M_step 41 = .ok (.iconst 1, 1) := by decide +kernel
theorem d_M_step_42 : decode b_M_step 42 = .ok (.invokevirtual 246, 3) := by decide +kernel
theorem d_M_step_45 : decode b_M_step 45 = .ok (.ifCond .eq 15, 3) := by decide +kernel
theorem d_M_step_48 : decode b_M_step 48 = .ok (.aload_n 0, 1) := by decide +kernel
theorem d_M_step_49 : decode b_M_step 49 = .ok (.iload_n 1, 1) := by decide +kernel
theorem d_M_step_50 : decode b_M_step 50 = .ok (.invokevirtual 279, 3) := by decide +kernel
theorem d_M_step_53 : decode b_M_step 53 = .ok (.aload_n 0, 1) := by decide +kernel
theorem d_M_step_54 : decode b_M_step 54 = .ok (.invokevirtual 321, 3) := by decide +kernel
theorem d_M_step_57 : decode b_M_step 57 = .ok (.goto 37, 3) := by decide +kernel
theorem d_M_step_60 : decode b_M_step 60 = .ok (.iload_n 1, 1) := by decide +kernel
theorem d_M_step_61 : decode b_M_step 61 = .ok (.ifCond .ne 17, 3) := by decide +kernel
theorem d_M_step_64 : decode b_M_step 64 = .ok (.aload_n 0, 1) := by decide +kernel
theorem d_M_step_65 : decode b_M_step 65 = .ok (.getfield 199, 3) := by decide +kernel
theorem d_M_step_68 : decode b_M_step 68 = .ok (.ifCond .eq 26, 3) := by decide +kernel
theorem d_M_step_71 : decode b_M_step 71 = .ok (.aload_n 0, 1) := by decide +kernel
theorem d_M_step_72 : decode b_M_step 72 = .ok (.invokevirtual 202, 3) := by decide +kernel
theorem d_M_step_75 : decode b_M_step 75 = .ok (.goto 19, 3) := by decide +kernel
theorem d_M_step_78 : decode b_M_step 78 = .ok (.aload_n 0, 1) := by decide +kernel
theorem d_M_step_79 : decode b_M_step 79 = .ok (.bipush 125, 2) := by decide +kernel
theorem d_M_step_81 : decode b_M_step 81 = .ok (.invokevirtual 273, 3) := by decide +kernel
theorem d_M_step_84 : decode b_M_step 84 = .ok (.aload_n 0, 1) := by decide +kernel
theorem d_M_step_85 : decode b_M_step 85 = .ok (.aload_n 0, 1) := by decide +kernel
theorem d_M_step_86 : decode b_M_step 86 = .ok (.getfield 324, 3) := by decide +kernel
theorem d_M_step_89 : decode b_M_step 89 = .ok (.iconst 1, 1) := by decide +kernel
theorem d_M_step_90 : decode b_M_step 90 = .ok (.isub, 1) := by decide +kernel
theorem d_M_step_91 : decode b_M_step 91 = .ok (.putfield 324, 3) := by decide +kernel
theorem d_M_step_94 : decode b_M_step 94 = .ok (.return_, 1) := by decide +kernel
theorem d_M_step_95 : decode b_M_step 95 = .ok (.aload_n 0, 1) := by decide +kernel
theorem d_M_step_96 : decode b_M_step 96 = .ok (.bipush 123, 2) := by decide +kernel
theorem d_M_step_98 : decode b_M_step 98 = .ok (.invokevirtual 249, 3) := by decide +kernel
theorem d_M_step_101 : decode b_M_step 101 = .ok (.ifCond .eq 16, 3) := by decide +kernel
theorem d_M_step_104 : decode b_M_step 104 = .ok (.aload_n 0, 1) := by decide +kernel
theorem d_M_step_105 : decode b_M_step 105 = .ok (.getfield 324, 3) := by decide +kernel
theorem d_M_step_108 : decode b_M_step 108 = .ok (.bipush 8, 2) := by decide +kernel
theorem d_M_step_110 : decode b_M_step 110 = .ok (.if_icmp .ne 7, 3) := by decide +kernel
theorem d_M_step_113 : decode b_M_step 113 = .ok (.aload_n 0, 1) := by decide +kernel
theorem d_M_step_114 : decode b_M_step 114 = .ok (.invokevirtual 202, 3) := by decide +kernel
theorem d_M_step_117 : decode b_M_step 117 = .ok (.aload_n 0, 1) := by decide +kernel
theorem d_M_step_118 : decode b_M_step 118 = .ok (.bipush 123, 2) := by decide +kernel
theorem d_M_step_120 : decode b_M_step 120 = .ok (.invokevirtual 273, 3) := by decide +kernel
theorem d_M_step_123 : decode b_M_step 123 = .ok (.aload_n 0, 1) := by decide +kernel
theorem d_M_step_124 : decode b_M_step 124 = .ok (.aload_n 0, 1) := by decide +kernel
theorem d_M_step_125 : decode b_M_step 125 = .ok (.getfield 324, 3) := by decide +kernel
theorem d_M_step_128 : decode b_M_step 128 = .ok (.iconst 1, 1) := by decide +kernel
theorem d_M_step_129 : decode b_M_step 129 = .ok (.iadd, 1) := by decide +kernel
theorem d_M_step_130 : decode b_M_step 130 = .ok (.putfield 324, 3) := by decide +kernel
theorem d_M_step_133 : decode b_M_step 133 = .ok (.aload_n 0, 1) := by decide +kernel
theorem d_M_step_134 : decode b_M_step 134 = .ok (.iconst 1, 1) := by decide +kernel
theorem d_M_step_135 : decode b_M_step 135 = .ok (.invokevirtual 279, 3) := by decide +kernel
theorem d_M_step_138 : decode b_M_step 138 = .ok (.return_, 1) := by decide +kernel
theorem d_M_step_139 : decode b_M_step 139 = .ok (.aload_n 0, 1) := by decide +kernel
theorem d_M_step_140 : decode b_M_step 140 = .ok (.iconst 2, 1) := by decide +kernel
theorem d_M_step_141 : decode b_M_step 141 = .ok (.invokevirtual 327, 3) := by decide +kernel
theorem d_M_step_144 : decode b_M_step 144 = .ok (.ifCond .eq 25, 3) := by decide +kernel
theorem d_M_step_147 : decode b_M_step 147 = .ok (.aload_n 0, 1) := by decide +kernel
theorem d_M_step_148 : decode b_M_step 148 = .ok (.invokevirtual 252, 3) := by decide +kernel
theorem d_M_step_151 : decode b_M_step 151 = .ok (.aload_n 0, 1) := by decide +kernel
theorem d_M_step_152 : decode b_M_step 152 = .ok (.iconst 3, 1) := by decide +kernel
theorem d_M_step_153 : decode b_M_step 153 = .ok (.invokevirtual 279, 3) := by decide +kernel
theorem d_M_step_156 : decode b_M_step 156 = .ok (.aload_n 0, 1) := by decide +kernel
theorem d_M_step_157 : decode b_M_step 157 = .ok (.iconst 2, 1) := by decide +kernel
theorem d_M_step_158 : decode b_M_step 158 = .ok (.invokevirtual 279, 3) := by decide +kernel
theorem d_M_step_161 : decode b_M_step 161 = .ok (.aload_n 0, 1) := by decide +kernel
theorem d_M_step_162 : decode b_M_step 162 = .ok (.iconst 4, 1) := by decide +kernel
theorem d_M_step_163 : decode b_M_step 163 = .ok (.invokevirtual 279, 3) := by decide +kernel
theorem d_M_step_166 : decode b_M_step 166 = .ok (.goto 20, 3) := by decide +kernel
theorem d_M_step_169 : decode b_M_step 169 = .ok (.aload_n 0, 1) := by decide +kernel
theorem d_M_step_170 : decode b_M_step 170 = .ok (.iconst 3, 1) := by decide +kernel
theorem d_M_step_171 : decode b_M_step 171 = .ok (.invokevirtual 327, 3) := by decide +kernel
theorem d_M_step_174 : decode b_M_step 174 = .ok (.ifCond .eq 12, 3) := by decide +kernel
theorem d_M_step_177 : decode b_M_step 177 = .ok (.aload_n 0, 1) := by decide +kernel
theorem d_M_step_178 : decode b_M_step 178 = .ok (.invokevirtual 252, 3) := by decide +kernel
theorem d_M_step_181 : decode b_M_step 181 = .ok (.aload_n 0, 1) := by decide +kernel
theorem d_M_step_182 : decode b_M_step 182 = .ok (.iconst 2, 1) := by decide +kernel
theorem d_M_step_183 : decode b_M_step 183 = .ok (.invokevirtual 279, 3) := by decide +kernel
theorem d_M_step_186 : decode b_M_step 186 = .ok (.return_, 1) := by decide +kernel
theorem d_M_step_187 : decode b_M_step 187 = .ok (.aload_n 0, 1) := by decide +kernel
theorem d_M_step_188 : decode b_M_step 188 = .ok (.invokevirtual 330, 3) := by decide +kernel
theorem d_M_step_191 : decode b_M_step 191 = .ok (.return_, 1) := by decide +kernel
theorem d_M_step_192 : decode b_M_step 192 = .ok (.aload_n 0, 1) := by decide +kernel
theorem d_M_step_193 : decode b_M_step 193 = .ok (.bipush 44, 2) := by decide +kernel
theorem d_M_step_195 : decode b_M_step 195 = .ok (.invokevirtual 249, 3) := by decide +kernel
theorem d_M_step_198 : decode b_M_step 198 = .ok (.ifCond .eq 20, 3) := by decide +kernel
theorem d_M_step_201 : decode b_M_step 201 = .ok (.aload_n 0, 1) := by decide +kernel
theorem d_M_step_202 : decode b_M_step 202 = .ok (.invokevirtual 252, 3) := by decide +kernel
theorem d_M_step_205 : decode b_M_step 205 = .ok (.aload_n 0, 1) := by decide +kernel
theorem d_M_step_206 : decode b_M_step 206 = .ok (.iconst 5, 1) := by decide +kernel
theorem d_M_step_207 : decode b_M_step 207 = .ok (.invokevirtual 279, 3) := by decide +kernel
theorem d_M_step_210 : decode b_M_step 210 = .ok (.aload_n 0, 1) := by decide +kernel
theorem d_M_step_211 : decode b_M_step 211 = .ok (.iconst 4, 1) := by decide +kernel
theorem d_M_step_212 : decode b_M_step 212 = .ok (.invokevirtual 279, 3) := by decide +kernel
theorem d_M_step_215 : decode b_M_step 215 = .ok (.goto 9, 3) := by decide +kernel
theorem d_M_step_218 : decode b_M_step 218 = .ok (.aload_n 0, 1) := by decide +kernel
theorem d_M_step_219 : decode b_M_step 219 = .ok (.bipush 41, 2) := by decide +kernel
theorem d_M_step_221 : decode b_M_step 221 = .ok (.invokevirtual 273, 3) := by decide +kernel
theorem d_M_step_224 : decode b_M_step 224 = .ok (.return_, 1) := by decide +kernel
theorem d_M_step_225 : decode b_M_step 225 = .ok (.aload_n 0, 1) := by decide +kernel
theorem d_M_step_226 : decode b_M_step 226 = .ok (.aload_n 0, 1) := by decide +kernel
theorem d_M_step_227 : decode b_M_step 227 = .ok (.getfield 311, 3) := by decide +kernel
theorem d_M_step_230 : decode b_M_step 230 = .ok (.iconst 1, 1) := by decide +kernel
theorem d_M_step_231 : decode b_M_step 231 = .ok (.isub, 1) := by decide +kernel
theorem d_M_step_232 : decode b_M_step 232 = .ok (.putfield 311, 3) := by decide +kernel
theorem d_M_step_235 : decode b_M_step 235 = .ok (.return_, 1) := by decide +kernel
theorem d_M_string_0 : decode b_M_string 0 = .ok (.aload_n 0, 1) := by decide +kernel
theorem d_M_string_1 : decode b_M_string 1 = .ok (.iconst 4, 1) := by decide +kernel
theorem d_M_string_2 : decode b_M_string 2 = .ok (.invokevirtual 246, 3) := by decide +kernel
theorem d_M_string_5 : decode b_M_string 5 = .ok (.ifCond .eq 12, 3) := by decide +kernel
theorem d_M_string_8 : decode b_M_string 8 = .ok (.aload_n 0, 1) := by decide +kernel
theorem d_M_string_9 : decode b_M_string 9 = .ok (.getfield 264, 3) := by decide +kernel
theorem d_M_string_12 : decode b_M_string 12 = .ok (.bipush 60, 2) := by decide +kernel
theorem d_M_string_14 : decode b_M_string 14 = .ok (.if_icmp .ne 7, 3) := by decide +kernel
theorem d_M_string_17 : decode b_M_string 17 = .ok (.aload_n 0, 1) := by decide +kernel
theorem d_M_string_18 : decode b_M_string 18 = .ok (.invokevirtual 202, 3) := by decide +kernel
theorem d_M_string_21 : decode b_M_string 21 = .ok (.aload_n 0, 1) := by decide +kernel
theorem d_M_string_22 : decode b_M_string 22 = .ok (.getfield 154, 3) := by decide +kernel
theorem d_M_string_25 : decode b_M_string 25 = .ok (.ifCond .ge 13, 3) := by decide +kernel
theorem d_M_string_28 : decode b_M_string 28 = .ok (.aload_n 0, 1) := by decide +kernel
theorem d_M_string_29 : decode b_M_string 29 = .ok (.aload_n 0, 1) := by decide +kernel
theorem d_M_string_30 : decode b_M_string 30 = .ok (.getfield 264, 3) := by decide +kernel
theorem d_M_string_33 : decode b_M_string 33 = .ok (.iconst 1, 1) := by decide +kernel
theorem d_M_string_34 : decode b_M_string 34 = .ok (.iadd, 1) := by decide +kernel
theorem d_M_string_35 : decode b_M_string 35 = .ok (.putfield 264, 3) := by decide +kernel
theorem d_M_string_38 : decode b_M_string 38 = .ok (.return_, 1) := by decide +kernel
theorem d_M_tags_0 : decode b_M_tags 0 = .ok (.iconst 0, 1) := by decide +kernel
theorem d_M_tags_1 : decode b_M_tags 1 = .ok (.istore_n 2, 1) := by decide +kernel
theorem d_M_tags_2 : decode b_M_tags 2 = .ok (.iconst 0, 1) := by decide +kernel
theorem d_M_tags_3 : decode b_M_tags 3 = .ok (.istore_n 3, 1) := by decide +kernel
theorem d_M_tags_4 : decode b_M_tags 4 = .ok (.aload_n 0, 1) := by decide +kernel
theorem d_M_tags_5 : decode b_M_tags 5 = .ok (.iconst 2, 1) := by decide +kernel
theorem d_M_tags_6 : decode b_M_tags 6 = .ok (.invokevirtual 246, 3) := by decide +kernel
theorem d_M_tags_9 : decode b_M_tags 9 = .ok (.ifCond .eq 132, 3) := by decide +kernel
theorem d_M_tags_12 : decode b_M_tags 12 = .ok (.aload_n 0, 1) := by decide +kernel
theorem d_M_tags_13 : decode b_M_tags 13 = .ok (.bipush 25, 2) := by decide +kernel
theorem d_M_tags_15 : decode b_M_tags 15 = .ok (.invokevirtual 211, 3) := by decide +kernel
theorem d_M_tags_18 : decode b_M_tags 18 = .ok (.ifCond .eq 17, 3) := by decide +kernel
theorem d_M_tags_21 : decode b_M_tags 21 = .ok (.iload_n 1, 1) := by decide +kernel
theorem d_M_tags_22 : decode b_M_tags 22 = .ok (.bipush 8, 2) := by decide +kernel
theorem d_M_tags_24 : decode b_M_tags 24 = .ok (.if_icmp .eq 11, 3) := by decide +kernel
theorem d_M_tags_27 : decode b_M_tags 27 = .ok (.iload_n 2, 1) := by decide +kernel
theorem d_M_tags_28 : decode b_M_tags 28 = .ok (.ifCond .ne 7, 3) := by decide +kernel
theorem d_M_tags_31 : decode b_M_tags 31 = .ok (.iconst 1, 1) := by decide +kernel
theorem d_M_tags_32 : decode b_M_tags 32 = .ok (.goto 4, 3) := by decide +kernel
theorem d_M_tags_35 : decode b_M_tags 35 = .ok (.iconst 0, 1) := by decide +kernel
theorem d_M_tags_36 : decode b_M_tags 36 = .ok (.istore 4, 2) := by decide +kernel
theorem d_M_tags_38 : decode b_M_tags 38 = .ok (.aload_n 0, 1) := by decide +kernel
theorem d_M_tags_39 : decode b_M_tags 39 = .ok (.bipush 26, 2) := by decide +kernel
theorem d_M_tags_41 : decode b_M_tags 41 = .ok (.invokevirtual 211, 3) := by decide +kernel
theorem d_M_tags_44 : decode b_M_tags 44 = .ok (.ifCond .eq 17, 3) := by decide +kernel
theorem d_M_tags_47 : decode b_M_tags 47 = .ok (.iload_n 1, 1) := by decide +kernel
theorem d_M_tags_48 : decode b_M_tags 48 = .ok (.bipush 6, 2) := by decide +kernel
theorem d_M_tags_50 : decode b_M_tags 50 = .ok (.if_icmp .eq 11, 3) := by decide +kernel
theorem d_M_tags_53 : decode b_M_tags 53 = .ok (.iload_n 3, 1) := by decide +kernel
theorem d_M_tags_54 : decode b_M_tags 54 = .ok (.ifCond .ne 7, 3) := by decide +kernel
theorem d_M_tags_57 : decode b_M_tags 57 = .ok (.iconst 1, 1) := by decide +kernel
theorem d_M_tags_58 : decode b_M_tags 58 = .ok (.goto 4, 3) := by decide +kernel
theorem d_M_tags_61 : decode b_M_tags 61 = .ok (.iconst 0, 1) := by decide +kernel
theorem d_M_tags_62 : decode b_M_tags 62 = .ok (.istore 5, 2) := by decide +kernel
theorem d_M_tags_64 : decode b_M_tags 64 = .ok (.iload 4, 2) := by decide +kernel
theorem d_M_tags_66 : decode b_M_tags 66 = .ok (.ifCond .ne 12, 3) := by decide +kernel
theorem d_M_tags_69 : decode b_M_tags 69 = .ok (.iload 5, 2) := by decide +kernel
theorem d_M_tags_71 : decode b_M_tags 71 = .ok (.ifCond .ne 7, 3) := by decide +kernel
theorem d_M_tags_74 : decode b_M_tags 74 = .ok (.aload_n 0, 1) := by decide +kernel
theorem d_M_tags_75 : decode b_M_tags 75 = .ok (.invokevirtual 202, 3) := by decide +kernel
theorem d_M_tags_78 : decode b_M_tags 78 = .ok (.aload_n 0, 1) := by decide +kernel
theorem d_M_tags_79 : decode b_M_tags 79 = .ok (.iload 4, 2) := by decide +kernel
theorem d_M_tags_81 : decode b_M_tags 81 = .ok (.ifCond .eq 8, 3) := by decide +kernel
theorem d_M_tags_84 : decode b_M_tags 84 = .ok (.bipush 16, 2) := by decide +kernel
theorem d_M_tags_86 : decode b_M_tags 86 = .ok (.goto 5, 3) := by decide +kernel
theorem d_M_tags_89 : decode b_M_tags 89 = .ok (.bipush 8, 2) := by decide +kernel
theorem d_M_tags_91 : decode b_M_tags 91 = .ok (.invokevirtual 258, 3) := by decide +kernel
theorem d_M_tags_94 : decode b_M_tags 94 = .ok (.aload_n 0, 1) := by decide +kernel
theorem d_M_tags_95 : decode b_M_tags 95 = .ok (.invokevirtual 252, 3) := by decide +kernel
theorem d_M_tags_98 : decode b_M_tags 98 = .ok (.iload_n 2, 1) := by decide +kernel
theorem d_M_tags_99 : decode b_M_tags 99 = .ok (.ifCond .ne 8, 3) := by decide +kernel
theorem d_M_tags_102 : decode b_M_tags 102 = .ok (.iload 4, 2) := by decide +kernel
theorem d_M_tags_104 : decode b_M_tags 104 = .ok (.ifCond .eq 7, 3) := by decide +kernel
theorem d_M_tags_107 : decode b_M_tags 107 = .ok (.iconst 1, 1) := by decide +kernel
theorem d_M_tags_108 : decode b_M_tags 108 = .ok (.goto 4, 3) := by decide +kernel
theorem d_M_tags_111 : decode b_M_tags 111 = .ok (.iconst 0, 1) := by decide +kernel
theorem d_M_tags_112 : decode b_M_tags 112 = .ok (.istore_n 2, 1) := by decide +kernel
theorem d_M_tags_113 : decode b_M_tags 113 = .ok (.iload_n 3, 1) := by decide +kernel
theorem d_M_tags_114 : decode b_M_tags 114 = .ok (.ifCond .ne 8, 3) := by decide +kernel
theorem d_M_tags_117 : decode b_M_tags 117 = .ok (.iload 5, 2) := by decide +kernel
theorem d_M_tags_119 : decode b_M_tags 119 = .ok (.ifCond .eq 7, 3) := by decide +kernel
theorem d_M_tags_122 : decode b_M_tags 122 = .ok (.iconst 1, 1) := by decide +kernel
theorem d_M_tags_123 : decode b_M_tags 123 = .ok (.goto 4, 3) := by decide +kernel
theorem d_M_tags_126 : decode b_M_tags 126 = .ok (.iconst 0, 1) := by decide +kernel
theorem d_M_tags_127 : decode b_M_tags 127 = .ok (.istore_n 3, 1) := by decide +kernel
theorem d_M_tags_128 : decode b_M_tags 128 = .ok (.iload 4, 2) := by decide +kernel
theorem d_M_tags_130 : decode b_M_tags 130 = .ok (.ifCond .eq 8, 3) := by decide +kernel
theorem d_M_tags_133 : decode b_M_tags 133 = .ok (.aload_n 0, 1) := by decide +kernel
theorem d_M_tags_134 : decode b_M_tags 134 = .ok (.iconst 0, 1) := by decide +kernel
theorem d_M_tags_135 : decode b_M_tags 135 = .ok (.invokevirtual 294, 3) := by decide +kernel
theorem d_M_tags_138 : decode b_M_tags 138 = .ok (.goto (-134), 3) := by decide +kernel
theorem d_M_tags_141 : decode b_M_tags 141 = .ok (.return_, 1) := by decide +kernel
theorem d_M_take_0 : decode b_M_take 0 = .ok (.aload_n 0, 1) := by decide +kernel
theorem d_M_take_1 : decode b_M_take 1 = .ok (.iload_n 1, 1) := by decide +kernel
theorem d_M_take_2 : decode b_M_take 2 = .ok (.invokevirtual 249, 3) := by decide +kernel
theorem d_M_take_5 : decode b_M_take 5 = .ok (.ifCond .eq 10, 3) := by decide +kernel
theorem d_M_take_8 : decode b_M_take 8 = .ok (.aload_n 0, 1) := by decide +kernel
theorem d_M_take_9 : decode b_M_take 9 = .ok (.invokevirtual 252, 3) := by decide +kernel
theorem d_M_take_12 : decode b_M_take 12 = .ok (.goto 7, 3) := by decide +kernel
theorem d_M_take_15 : decode b_M_take 15 = .ok (.aload_n 0, 1) := by decide +kernel
theorem d_M_take_16 : decode b_M_take 16 = .ok (.invokevirtual 202, 3) := by decide +kernel
theorem d_M_take_19 : decode b_M_take 19 = .ok (.return_, 1) := by decide +kernel
theorem d_M_taken_0 : decode b_M_taken 0 = .ok (.aload_n 0, 1) := by decide +kernel
theorem d_M_taken_1 : decode b_M_taken 1 = .ok (.invokevirtual 267, 3) := by decide +kernel
theorem d_M_taken_4 : decode b_M_taken 4 = .ok (.aload_n 0, 1) := by decide +kernel
theorem d_M_taken_5 : decode b_M_taken 5 = .ok (.invokevirtual 252, 3) := by decide +kernel
theorem d_M_taken_8 : decode b_M_taken 8 = .ok (.return_, 1) := by decide +kernel
theorem d_M_test_0 : decode b_M_test 0 = .ok (.aload_n 0, 1) := by decide +kernel
theorem d_M_test_1 : decode b_M_test 1 = .ok (.iconst 1, 1) := by decide +kernel
theorem d_M_test_2 : decode b_M_test 2 = .ok (.invokevirtual 246, 3) := by decide +kernel
theorem d_M_test_5 : decode b_M_test 5 = .ok (.ifCond .eq 14, 3) := by decide +kernel
theorem d_M_test_8 : decode b_M_test 8 = .ok (.aload_n 0, 1) := by decide +kernel
theorem d_M_test_9 : decode b_M_test 9 = .ok (.bipush 14, 2) := by decide +kernel
theorem d_M_test_11 : decode b_M_test 11 = .ok (.bipush 11, 2) := by decide +kernel
theorem d_M_test_13 : decode b_M_test 13 = .ok (.invokevirtual 181, 3) := by decide +kernel
theorem d_M_test_16 : decode b_M_test 16 = .ok (.goto 4, 3) := by decide +kernel
theorem d_M_test_19 : decode b_M_test 19 = .ok (.iconst (-1), 1) := by decide +kernel
theorem d_M_test_20 : decode b_M_test 20 = .ok (.istore_n 1, 1) := by decide +kernel
theorem d_M_test_21 : decode b_M_test 21 = .ok (.iload_n 1, 1) := by decide +kernel
theorem d_M_test_22 : decode b_M_test 22 = .ok (.ifCond .lt 12, 3) := by decide +kernel
theorem d_M_test_25 : decode b_M_test 25 = .ok (.aload_n 0, 1) := by decide +kernel
theorem d_M_test_26 : decode b_M_test 26 = .ok (.getfield 311, 3) := by decide +kernel
theorem d_M_test_29 : decode b_M_test 29 = .ok (.bipush 8, 2) := by decide +kernel
theorem d_M_test_31 : decode b_M_test 31 = .ok (.if_icmp .ne 8, 3) := by decide +kernel
theorem d_M_test_34 : decode b_M_test 34 = .ok (.aload_n 0, 1) := by decide +kernel
theorem d_M_test_35 : decode b_M_test 35 = .ok (.invokevirtual 202, 3) := by decide +kernel
theorem d_M_test_38 : decode b_M_test 38 = .ok (.return_, 1) := by decide +kernel
theorem d_M_test_39 : decode b_M_test 39 = .ok (.aload_n 0, 1) := by decide +kernel
theorem d_M_test_40 : decode b_M_test 40 = .ok (.iload_n 1, 1) := by decide +kernel
theorem d_M_test_41 : decode b_M_test 41 = .ok (.bipush 16, 2) := by decide +kernel
theorem d_M_test_43 : decode b_M_test 43 = .ok (.if_icmp .ne 7, 3) := by decide +kernel
theorem d_M_test_46 : decode b_M_test 46 = .ok (.iconst 4, 1) := by decide +kernel
theorem d_M_test_47 : decode b_M_test 47 = .ok (.goto 15, 3) := by decide +kernel
theorem d_M_test_50 : decode b_M_test 50 = .ok (.iload_n 1, 1) := by decide +kernel
theorem d_M_test_51 : decode b_M_test 51 = .ok (.bipush 17, 2) := by decide +kernel
theorem d_M_test_53 : decode b_M_test 53 = .ok (.if_icmp .ne 8, 3) := by decide +kernel
theorem d_M_test_56 : decode b_M_test 56 = .ok (.bipush 16, 2) := by decide +kernel
theorem d_M_test_58 : decode b_M_test 58 = .ok (.goto 4, 3) := by decide +kernel
theorem d_M_test_61 : decode b_M_test 61 = .ok (.iconst 0, 1) := by decide +kernel
theorem d_M_test_62 : decode b_M_test 62 = .ok (.invokevirtual 276, 3) := by decide +kernel
theorem d_M_test_65 : decode b_M_test 65 = .ok (.aload_n 0, 1) := by decide +kernel
theorem d_M_test_66 : decode b_M_test 66 = .ok (.invokevirtual 252, 3) := by decide +kernel
theorem d_M_test_69 : decode b_M_test 69 = .ok (.iload_n 1, 1) := by decide +kernel
theorem d_M_test_70 : decode b_M_test 70 = .ok (.bipush 20, 2) := by decide +kernel
theorem d_M_test_72 : decode b_M_test 72 = .ok (.if_icmp .lt 48, 3) := by decide +kernel
theorem d_M_test_75 : decode b_M_test 75 = .ok (.iload_n 1, 1) := by decide +kernel
theorem d_M_test_76 : decode b_M_test 76 = .ok (.bipush 22, 2) := by decide +kernel
theorem d_M_test_78 : decode b_M_test 78 = .ok (.if_icmp .gt 42, 3) := by decide +kernel
theorem d_M_test_81 : decode b_M_test 81 = .ok (.aload_n 0, 1) := by decide +kernel
theorem d_M_test_82 : decode b_M_test 82 = .ok (.aload_n 0, 1) := by decide +kernel
theorem d_M_test_83 : decode b_M_test 83 = .ok (.getfield 311, 3) := by decide +kernel
theorem d_M_test_86 : decode b_M_test 86 = .ok (.iconst 1, 1) := by decide +kernel
theorem d_M_test_87 : decode b_M_test 87 = .ok (.iadd, 1) := by decide +kernel
theorem d_M_test_88 : decode b_M_test 88 = .ok (.putfield 311, 3) := by decide +kernel
theorem d_M_test_91 : decode b_M_test 91 = .ok (.aload_n 0, 1) := by decide +kernel
theorem d_M_test_92 : decode b_M_test 92 = .ok (.bipush 6, 2) := by decide +kernel
theorem d_M_test_94 : decode b_M_test 94 = .ok (.invokevirtual 279, 3) := by decide +kernel
theorem d_M_test_97 : decode b_M_test 97 = .ok (.iload_n 1, 1) := by decide +kernel
theorem d_M_test_98 : decode b_M_test 98 = .ok (.bipush 22, 2) := by decide +kernel
theorem d_M_test_100 : decode b_M_test 100 = .ok (.if_icmp .eq 14, 3) := by decide +kernel
theorem d_M_test_103 : decode b_M_test 103 = .ok (.aload_n 0, 1) := by decide +kernel
theorem d_M_test_104 : decode b_M_test 104 = .ok (.iconst 5, 1) := by decide +kernel
theorem d_M_test_105 : decode b_M_test 105 = .ok (.invokevirtual 279, 3) := by decide +kernel
theorem d_M_test_108 : decode b_M_test 108 = .ok (.aload_n 0, 1) := by decide +kernel
theorem d_M_test_109 : decode b_M_test 109 = .ok (.bipush 40, 2) := by decide +kernel
theorem d_M_test_111 : decode b_M_test 111 = .ok (.invokevirtual 273, 3) := by decide +kernel
theorem d_M_test_114 : decode b_M_test 114 = .ok (.aload_n 0, 1) := by decide +kernel
theorem d_M_test_115 : decode b_M_test 115 = .ok (.iconst 4, 1) := by decide +kernel
theorem d_M_test_116 : decode b_M_test 116 = .ok (.invokevirtual 279, 3) := by decide +kernel
theorem d_M_test_119 : decode b_M_test 119 = .ok (.return_, 1) := by decide +kernel
theorem d_M_test_120 : decode b_M_test 120 = .ok (.iload_n 1, 1) := by decide +kernel
theorem d_M_test_121 : decode b_M_test 121 = .ok (.bipush 18, 2) := by decide +kernel
theorem d_M_test_123 : decode b_M_test 123 = .ok (.if_icmp .ge 24, 3) := by decide +kernel
theorem d_M_test_126 : decode b_M_test 126 = .ok (.aload_n 0, 1) := by decide +kernel
theorem d_M_test_127 : decode b_M_test 127 = .ok (.iload_n 1, 1) := by decide +kernel
theorem d_M_test_128 : decode b_M_test 128 = .ok (.bipush 15, 2) := by decide +kernel
theorem d_M_test_130 : decode b_M_test 130 = .ok (.if_icmp .eq 9, 3) := by decide +kernel
theorem d_M_test_133 : decode b_M_test 133 = .ok (.iload_n 1, 1) := by decide +kernel
theorem d_M_test_134 : decode b_M_test 134 = .ok (.bipush 16, 2) := by decide +kernel
theorem d_M_test_136 : decode b_M_test 136 = .ok (.if_icmp .ne 7, 3) := by decide +kernel
theorem d_M_test_139 : decode b_M_test 139 = .ok (.iconst 1, 1) := by decide +kernel
theorem d_M_test_140 : decode b_M_test 140 = .ok (.goto 4, 3) := by decide +kernel
theorem d_M_test_143 : decode b_M_test 143 = .ok (.iconst 0, 1) := by decide +kernel
theorem d_M_test_144 : decode b_M_test 144 = .ok (.invokevirtual 314, 3) := by decide +kernel
theorem d_M_test_147 : decode b_M_test 147 = .ok (.iload_n 1, 1) := by decide +kernel
theorem d_M_test_148 : decode b_M_test 148 = .ok (.bipush 17, 2) := by decide +kernel
theorem d_M_test_150 : decode b_M_test 150 = .ok (.if_icmp .ge 8, 3) := by decide +kernel
theorem d_M_test_153 : decode b_M_test 153 = .ok (.aload_n 0, 1) := by decide +kernel
theorem d_M_test_154 : decode b_M_test 154 = .ok (.iconst 0, 1) := by decide +kernel
theorem d_M_test_155 : decode b_M_test 155 = .ok (.invokevirtual 294, 3) := by decide +kernel
theorem d_M_test_158 : decode b_M_test 158 = .ok (.iload_n 1, 1) := by decide +kernel
theorem d_M_test_159 : decode b_M_test 159 = .ok (.bipush 19, 2) := by decide +kernel
theorem d_M_test_161 : decode b_M_test 161 = .ok (.if_icmp .ge 8, 3) := by decide +kernel
theorem d_M_test_164 : decode b_M_test 164 = .ok (.aload_n 0, 1) := by decide +kernel
theorem d_M_test_165 : decode b_M_test 165 = .ok (.iconst 0, 1) := by decide +kernel
theorem d_M_test_166 : decode b_M_test 166 = .ok (.invokevirtual 294, 3) := by decide +kernel
theorem d_M_test_169 : decode b_M_test 169 = .ok (.iload_n 1, 1) := by decide +kernel
theorem d_M_test_170 : decode b_M_test 170 = .ok (.bipush 19, 2) := by decide +kernel
theorem d_M_test_172 : decode b_M_test 172 = .ok (.if_icmp .ne 33, 3) := by decide +kernel
theorem d_M_test_175 : decode b_M_test 175 = .ok (.aload_n 0, 1) := by decide +kernel
theorem d_M_test_176 : decode b_M_test 176 = .ok (.iconst 2, 1) := by decide +kernel
theorem d_M_test_177 : decode b_M_test 177 = .ok (.invokevirtual 246, 3) := by decide +kernel
theorem d_M_test_180 : decode b_M_test 180 = .ok (.ifCond .eq 13, 3) := by decide +kernel
theorem d_M_test_183 : decode b_M_test 183 = .ok (.aload_n 0, 1) := by decide +kernel
theorem d_M_test_184 : decode b_M_test 184 = .ok (.bipush 31, 2) := by decide +kernel
theorem d_M_test_186 : decode b_M_test 186 = .ok (.iconst 2, 1) := by decide +kernel
theorem d_M_test_187 : decode b_M_test 187 = .ok (.invokevirtual 181, 3) := by decide +kernel
theorem d_M_test_190 : decode b_M_test 190 = .ok (.ifCond .ge 7, 3) := by decide +kernel
theorem d_M_test_193 : decode b_M_test 193 = .ok (.aload_n 0, 1) := by decide +kernel
theorem d_M_test_194 : decode b_M_test 194 = .ok (.invokevirtual 202, 3) := by decide +kernel
theorem d_M_test_197 : decode b_M_test 197 = .ok (.aload_n 0, 1) := by decide +kernel
theorem d_M_test_198 : decode b_M_test 198 = .ok (.invokevirtual 252, 3) := by decide +kernel
theorem d_M_test_201 : decode b_M_test 201 = .ok (.aload_n 0, 1) := by decide +kernel
theorem d_M_test_202 : decode b_M_test 202 = .ok (.invokevirtual 308, 3) := by decide +kernel
theorem d_M_test_205 : decode b_M_test 205 = .ok (.return_, 1) := by decide +kernel
theorem d_M_token_0 : decode b_M_token 0 = .ok (.aload_n 0, 1) := by decide +kernel
theorem d_M_token_1 : decode b_M_token 1 = .ok (.iconst 0, 1) := by decide +kernel
theorem d_M_token_2 : decode b_M_token 2 = .ok (.invokevirtual 185, 3) := by decide +kernel
theorem d_M_token_5 : decode b_M_token 5 = .ok (.istore_n 1, 1) := by decide +kernel
theorem d_M_token_6 : decode b_M_token 6 = .ok (.aload_n 0, 1) := by decide +kernel
theorem d_M_token_7 : decode b_M_token 7 = .ok (.invokevirtual 205, 3) := by decide +kernel
theorem d_M_token_10 : decode b_M_token 10 = .ok (.iload_n 1, 1) := by decide +kernel
theorem d_M_token_11 : decode b_M_token 11 = .ok (.ifCond .ge 5, 3) := by decide +kernel
theorem d_M_token_14 : decode b_M_token 14 = .ok (.iconst 0, 1) := by decide +kernel
theorem d_M_token_15 : decode b_M_token 15 = .ok (.ireturn, 1) := by decide +kernel
theorem d_M_token_16 : decode b_M_token 16 = .ok (.iload_n 1, 1) := by decide +kernel
theorem d_M_token_17 : decode b_M_token 17 = .ok (.invokestatic 167, 3) := by decide +kernel
theorem d_M_token_20 : decode b_M_token 20 = .ok (.ifCond .ne 9, 3) := by decide +kernel
theorem d_M_token_23 : decode b_M_token 23 = .ok (.iload_n 1, 1) := by decide +kernel
theorem d_M_token_24 : decode b_M_token 24 = .ok (.bipush 95, 2) := by decide +kernel
theorem d_M_token_26 : decode b_M_token 26 = .ok (.if_icmp .ne 35, 3) := by decide +kernel
theorem d_M_token_29 : decode b_M_token 29 = .ok (.aload_n 0, 1) := by decide +kernel
theorem d_M_token_30 : decode b_M_token 30 = .ok (.invokevirtual 208, 3) := by decide +kernel
theorem d_M_token_33 : decode b_M_token 33 = .ok (.aload_n 0, 1) := by decide +kernel
theorem d_M_token_34 : decode b_M_token 34 = .ok (.bipush 54, 2) := by decide +kernel
theorem d_M_token_36 : decode b_M_token 36 = .ok (.invokevirtual 211, 3) := by decide +kernel
theorem d_M_token_39 : decode b_M_token 39 = .ok (.ifCond .eq 20, 3) := by decide +kernel
theorem d_M_token_42 : decode b_M_token 42 = .ok (.aload_n 0, 1) := by decide +kernel
theorem d_M_token_43 : decode b_M_token 43 = .ok (.iconst 0, 1) := by decide +kernel
theorem d_M_token_44 : decode b_M_token 44 = .ok (.invokevirtual 185, 3) := by decide +kernel
theorem d_M_token_47 : decode b_M_token 47 = .ok (.bipush 58, 2) := by decide +kernel
theorem d_M_token_49 : decode b_M_token 49 = .ok (.if_icmp .ne 10, 3) := by decide +kernel
theorem d_M_token_52 : decode b_M_token 52 = .ok (.aload_n 0, 1) := by decide +kernel
theorem d_M_token_53 : decode b_M_token 53 = .ok (.invokevirtual 214, 3) := by decide +kernel
theorem d_M_token_56 : decode b_M_token 56 = .ok (.goto 4, 3) := by decide +kernel
theorem d_M_token_59 : decode b_M_token 59 = .ok (.iconst 1, 1) := by decide +kernel
theorem d_M_token_60 : decode b_M_token 60 = .ok (.ireturn, 1) := by decide +kernel
theorem d_M_token_61 : decode b_M_token 61 = .ok (.iload_n 1, 1) := by decide +kernel
theorem d_M_token_62 : decode b_M_token 62 = .ok (.bipush 58, 2) := by decide +kernel
theorem d_M_token_64 : decode b_M_token 64 = .ok (.if_icmp .ne 42, 3) := by decide +kernel
theorem d_M_token_67 : decode b_M_token 67 = .ok (.aload_n 0, 1) := by decide +kernel
theorem d_M_token_68 : decode b_M_token 68 = .ok (.iconst 1, 1) := by decide +kernel
theorem d_M_token_69 : decode b_M_token 69 = .ok (.invokevirtual 185, 3) := by decide +kernel
theorem d_M_token_72 : decode b_M_token 72 = .ok (.invokestatic 167, 3) := by decide +kernel
theorem d_M_token_75 : decode b_M_token 75 = .ok (.ifCond .ne 15, 3) := by decide +kernel
theorem d_M_token_78 : decode b_M_token 78 = .ok (.aload_n 0, 1) := by decide +kernel
theorem d_M_token_79 : decode b_M_token 79 = .ok (.iconst 1, 1) := by decide +kernel
theorem d_M_token_80 : decode b_M_token 80 = .ok (.invokevirtual 185, 3) := by decide +kernel
theorem d_M_token_83 : decode b_M_token 83 = .ok (.bipush 95, 2) := by decide +kernel
theorem d_M_token_85 : decode b_M_token 85 = .ok (.if_icmp .eq 5, 3) := by decide +kernel
theorem d_M_token_88 : decode b_M_token 88 = .ok (.iconst 5, 1) := by decide +kernel
theorem d_M_token_89 : decode b_M_token 89 = .ok (.ireturn, 1) := by decide +kernel
theorem d_M_token_90 : decode b_M_token 90 = .ok (.aload_n 0, 1) := by decide +kernel
theorem d_M_token_91 : decode b_M_token 91 = .ok (.aload_n 0, 1) := by decide +kernel
theorem d_M_token_92 : decode b_M_token 92 = .ok (.getfield 164, 3) := by decide +kernel
theorem d_M_token_95 : decode b_M_token 95 = .ok (.iconst 1, 1) := by decide +kernel
theorem d_M_token_96 : decode b_M_token 96 = .ok (.iadd, 1) := by decide +kernel
theorem d_M_token_97 : decode b_M_token 97 = .ok (.putfield 164, 3) := by decide +kernel
theorem d_M_token_100 : decode b_M_token 100 = .ok (.aload_n 0, 1) := by decide +kernel
theorem d_M_token_101 : decode b_M_token 101 = .ok (.invokevirtual 208, 3) := by decide +kernel
theorem d_M_token_104 : decode b_M_token 104 = .ok (.iconst 2, 1) := by decide +kernel
theorem d_M_token_105 : decode b_M_token 105 = .ok (.ireturn, 1) := by decide +kernel
theorem d_M_token_106 : decode b_M_token 106 = .ok (.iload_n 1, 1) := by decide +kernel
theorem d_M_token_107 : decode b_M_token 107 = .ok (.invokestatic 171, 3) := by decide +kernel
theorem d_M_token_110 : decode b_M_token 110 = .ok (.ifCond .eq 8, 3) := by decide +kernel
theorem d_M_token_113 : decode b_M_token 113 = .ok (.aload_n 0, 1) := by decide +kernel
theorem d_M_token_114 : decode b_M_token 114 = .ok (.invokevirtual 217, 3) := by decide +kernel
theorem d_M_token_117 : decode b_M_token 117 = .ok (.ireturn, 1) := by decide +kernel
theorem d_M_token_118 : decode b_M_token 118 = .ok (.iload_n 1, 1) := by decide +kernel
theorem d_M_token_119 : decode b_M_token 119 = .ok (.bipush 34, 2) := by decide +kernel
theorem d_M_token_121 : decode b_M_token 121 = .ok (.if_icmp .ne 8, 3) := by decide +kernel
theorem d_M_token_124 : decode b_M_token 124 = .ok (.aload_n 0, 1) := by decide +kernel
theorem d_M_token_125 : decode b_M_token 125 = .ok (.invokevirtual 220, 3) := by decide +kernel
theorem d_M_token_128 : decode b_M_token 128 = .ok (.ireturn, 1) := by decide +kernel
theorem d_M_token_129 : decode b_M_token 129 = .ok (.iload_n 1, 1) := by decide +kernel
theorem d_M_token_130 : decode b_M_token 130 = .ok (.bipush 59, 2) := by decide +kernel
theorem d_M_token_132 : decode b_M_token 132 = .ok (.if_icmp .eq 45, 3) := by decide +kernel
theorem d_M_token_135 : decode b_M_token 135 = .ok (.iload_n 1, 1) := by decide +kernel
theorem d_M_token_136 : decode b_M_token 136 = .ok (.bipush 44, 2) := by decide +kernel
theorem d_M_token_138 : decode b_M_token 138 = .ok (.if_icmp .eq 39, 3) := by decide +kernel
theorem d_M_token_141 : decode b_M_token 141 = .ok (.iload_n 1, 1) := by decide +kernel
theorem d_M_token_142 : decode b_M_token 142 = .ok (.bipush 40, 2) := by decide +kernel
theorem d_M_token_144 : decode b_M_token 144 = .ok (.if_icmp .eq 33, 3) := by decide +kernel
theorem d_M_token_147 : decode b_M_token 147 = .ok (.iload_n 1, 1) := by decide +kernel
theorem d_M_token_148 : decode b_M_token 148 = .ok (.bipush 41, 2) := by decide +kernel
theorem d_M_token_150 : decode b_M_token 150 = .ok (.if_icmp .eq 27, 3) := by decide +kernel
theorem d_M_token_153 : decode b_M_token 153 = .ok (.iload_n 1, 1) := by decide +kernel
theorem d_M_token_154 : decode b_M_token 154 = .ok (.bipush 91, 2) := by decide +kernel
theorem d_M_token_156 : decode b_M_token 156 = .ok (.if_icmp .eq 21, 3) := by decide +kernel
theorem d_M_token_159 : decode b_M_token 159 = .ok (.iload_n 1, 1) := by decide +kernel
theorem d_M_token_160 : decode b_M_token 160 = .ok (.bipush 93, 2) := by decide +kernel
theorem d_M_token_162 : decode b_M_token 162 = .ok (.if_icmp .eq 15, 3) := by decide +kernel
theorem d_M_token_165 : decode b_M_token 165 = .ok (.iload_n 1, 1) := by decide +kernel
theorem d_M_token_166 : decode b_M_token 166 = .ok (.bipush 123, 2) := by decide +kernel
theorem d_M_token_168 : decode b_M_token 168 = .ok (.if_icmp .eq 9, 3) := by decide +kernel
theorem d_M_token_171 : decode b_M_token 171 = .ok (.iload_n 1, 1) := by decide +kernel
theorem d_M_token_172 : decode b_M_token 172 = .ok (.bipush 125, 2) := by decide +kernel
theorem d_M_token_174 : decode b_M_token 174 = .ok (.if_icmp .ne 7, 3) := by decide +kernel
theorem d_M_token_177 : decode b_M_token 177 = .ok (.iconst 1, 1) := by decide +kernel
theorem d_M_token_178 : decode b_M_token 178 = .ok (.goto 4, 3) := by decide +kernel
theorem d_M_token_181 : decode b_M_token 181 = .ok (.iconst 0, 1) := by decide +kernel
theorem d_M_token_182 : decode b_M_token 182 = .ok (.istore_n 2, 1) := by decide +kernel
theorem d_M_token_183 : decode b_M_token 183 = .ok (.iload_n 2, 1) := by decide +kernel
theorem d_M_token_184 : decode b_M_token 184 = .ok (.ifCond .ne 5, 3) := by decide +kernel
theorem d_M_token_187 : decode b_M_token 187 = .ok (.iconst 5, 1) := by decide +kernel
theorem d_M_token_188 : decode b_M_token 188 = .ok (.ireturn, 1) := by decide +kernel
theorem d_M_token_189 : decode b_M_token 189 = .ok (.aload_n 0, 1) := by decide +kernel
theorem d_M_token_190 : decode b_M_token 190 = .ok (.aload_n 0, 1) := by decide +kernel
theorem d_M_token_191 : decode b_M_token 191 = .ok (.getfield 164, 3) := by decide +kernel
theorem d_M_token_194 : decode b_M_token 194 = .ok (.iconst 1, 1) := by decide +kernel
theorem d_M_token_195 : decode b_M_token 195 = .ok (.iadd, 1) := by decide +kernel
theorem d_M_token_196 : decode b_M_token 196 = .ok (.putfield 164, 3) := by decide +kernel
theorem d_M_token_199 : decode b_M_token 199 = .ok (.bipush 100, 2) := by decide +kernel
theorem d_M_token_201 : decode b_M_token 201 = .ok (.iload_n 1, 1) := by decide +kernel
theorem d_M_token_202 : decode b_M_token 202 = .ok (.iadd, 1) := by decide +kernel
theorem d_M_token_203 : decode b_M_token 203 = .ok (.ireturn, 1) := by decide +kernel
theorem d_M_which_0 : decode b_M_which 0 = .ok (.iload_n 1, 1) := by decide +kernel
theorem d_M_which_1 : decode b_M_which 1 = .ok (.istore_n 3, 1) := by decide +kernel
theorem d_M_which_2 : decode b_M_which 2 = .ok (.iload_n 3, 1) := by decide +kernel
theorem d_M_which_3 : decode b_M_which 3 = .ok (.iload_n 1, 1) := by decide +kernel
theorem d_M_which_4 : decode b_M_which 4 = .ok (.iload_n 2, 1) := by decide +kernel
theorem d_M_which_5 : decode b_M_which 5 = .ok (.iadd, 1) := by decide +kernel
theorem d_M_which_6 : decode b_M_which 6 = .ok (.if_icmp .ge 85, 3) := by decide +kernel
theorem d_M_which_9 : decode b_M_which 9 = .ok (.aload_n 0, 1) := by decide +kernel
theorem d_M_which_10 : decode b_M_which 10 = .ok (.getfield 174, 3) := by decide +kernel
theorem d_M_which_13 : decode b_M_which 13 = .ok (.aload_n 0, 1) := by decide +kernel
theorem d_M_which_14 : decode b_M_which 14 = .ok (.getfield 141, 3) := by decide +kernel
theorem d_M_which_17 : decode b_M_which 17 = .ok (.iload_n 3, 1) := by decide +kernel
theorem d_M_which_18 : decode b_M_which 18 = .ok (.iaload, 1) := by decide +kernel
theorem d_M_which_19 : decode b_M_which 19 = .ok (.if_icmp .ne 7, 3) := by decide +kernel
theorem d_M_which_22 : decode b_M_which 22 = .ok (.iconst 1, 1) := by decide +kernel
theorem d_M_which_23 : decode b_M_which 23 = .ok (.goto 4, 3) := by decide +kernel
theorem d_M_which_26 : decode b_M_which 26 = .ok (.iconst 0, 1) := by decide +kernel
theorem d_M_which_27 : decode b_M_which 27 = .ok (.istore 4, 2) := by decide +kernel
theorem d_M_which_29 : decode b_M_which 29 = .ok (.iconst 0, 1) := by decide +kernel
theorem d_M_which_30 : decode b_M_which 30 = .ok (.istore 5, 2) := by decide +kernel
theorem d_M_which_32 : decode b_M_which 32 = .ok (.iload 5, 2) := by decide +kernel
theorem d_M_which_34 : decode b_M_which 34 = .ok (.iconst 4, 1) := by decide +kernel
theorem d_M_which_35 : decode b_M_which 35 = .ok (.if_icmp .ge 43, 3) := by decide +kernel
theorem d_M_which_38 : decode b_M_which 38 = .ok (.iload 4, 2) := by decide +kernel
theorem d_M_which_40 : decode b_M_which 40 = .ok (.ifCond .eq 38, 3) := by decide +kernel
theorem d_M_which_43 : decode b_M_which 43 = .ok (.aload_n 0, 1) := by decide +kernel
theorem d_M_which_44 : decode b_M_which 44 = .ok (.getfield 148, 3) := by decide +kernel
theorem d_M_which_47 : decode b_M_which 47 = .ok (.iload 5, 2) := by decide +kernel
theorem d_M_which_49 : decode b_M_which 49 = .ok (.laload, 1) := by decide +kernel
theorem d_M_which_50 : decode b_M_which 50 = .ok (.aload_n 0, 1) := by decide +kernel
theorem d_M_which_51 : decode b_M_which 51 = .ok (.getfield 135, 3) := by decide +kernel
theorem d_M_which_54 : decode b_M_which 54 = .ok (.iconst 4, 1) := by decide +kernel
theorem d_M_which_55 : decode b_M_which 55 = .ok (.iload_n 3, 1) := by decide +kernel
theorem d_M_which_56 : decode b_M_which 56 = .ok (.imul, 1) := by decide +kernel
theorem d_M_which_57 : decode b_M_which 57 = .ok (.iload 5, 2) := by decide +kernel
theorem d_M_which_59 : decode b_M_which 59 = .ok (.iadd, 1) := by decide +kernel
theorem d_M_which_60 : decode b_M_which 60 = .ok (.laload, 1) := by decide +kernel
theorem d_M_which_61 : decode b_M_which 61 = .ok (.lcmp, 1) := by decide +kernel
theorem d_M_which_62 : decode b_M_which 62 = .ok (.ifCond .ne 7, 3) := by decide +kernel
theorem d_M_which_65 : decode b_M_which 65 = .ok (.iconst 1, 1) := by decide +kernel
theorem d_M_which_66 : decode b_M_which 66 = .ok (.goto 4, 3) := by decide +kernel
theorem d_M_which_69 : decode b_M_which 69 = .ok (.iconst 0, 1) := by decide +kernel
theorem d_M_which_70 : decode b_M_which 70 = .ok (.istore 4, 2) := by decide +kernel
theorem d_M_which_72 : decode b_M_which 72 = .ok (.iinc 5 1, 3) := by decide +kernel
theorem d_M_which_75 : decode b_M_which 75 = .ok (.goto (-43), 3) := by decide +kernel
theorem d_M_which_78 : decode b_M_which 78 = .ok (.iload 4, 2) := by decide +kernel
theorem d_M_which_80 : decode b_M_which 80 = .ok (.ifCond .eq 5, 3) := by decide +kernel
theorem d_M_which_83 : decode b_M_which 83 = .ok (.iload_n 3, 1) := by decide +kernel
theorem d_M_which_84 : decode b_M_which 84 = .ok (.ireturn, 1) := by decide +kernel
theorem d_M_which_85 : decode b_M_which 85 = .ok (.iinc 3 1, 3) := by decide +kernel
theorem d_M_which_88 : decode b_M_which 88 = .ok (.goto (-86), 3) := by decide +kernel
theorem d_M_which_91 : decode b_M_which 91 = .ok (.iconst (-1), 1) := by decide +kernel
theorem d_M_which_92 : decode b_M_which 92 = .ok (.ireturn, 1) := by decide +kernel
theorem d_M_wordOf_0 : decode b_M_wordOf 0 = .ok (.aload_n 0, 1) := by decide +kernel
theorem d_M_wordOf_1 : decode b_M_wordOf 1 = .ok (.iconst 0, 1) := by decide +kernel
theorem d_M_wordOf_2 : decode b_M_wordOf 2 = .ok (.invokevirtual 185, 3) := by decide +kernel
theorem d_M_wordOf_5 : decode b_M_wordOf 5 = .ok (.invokestatic 223, 3) := by decide +kernel
theorem d_M_wordOf_8 : decode b_M_wordOf 8 = .ok (.ifCond .eq 25, 3) := by decide +kernel
theorem d_M_wordOf_11 : decode b_M_wordOf 11 = .ok (.aload_n 0, 1) := by decide +kernel
theorem d_M_wordOf_12 : decode b_M_wordOf 12 = .ok (.aload_n 0, 1) := by decide +kernel
theorem d_M_wordOf_13 : decode b_M_wordOf 13 = .ok (.iconst 0, 1) := by decide +kernel
theorem d_M_wordOf_14 : decode b_M_wordOf 14 = .ok (.invokevirtual 185, 3) := by decide +kernel
theorem d_M_wordOf_17 : decode b_M_wordOf 17 = .ok (.invokevirtual 226, 3) := by decide +kernel
theorem d_M_wordOf_20 : decode b_M_wordOf 20 = .ok (.aload_n 0, 1) := by decide +kernel
theorem d_M_wordOf_21 : decode b_M_wordOf 21 = .ok (.aload_n 0, 1) := by decide +kernel
theorem d_M_wordOf_22 : decode b_M_wordOf 22 = .ok (.getfield 164, 3) := by decide +kernel
theorem d_M_wordOf_25 : decode b_M_wordOf 25 = .ok (.iconst 1, 1) := by decide +kernel
theorem d_M_wordOf_26 : decode b_M_wordOf 26 = .ok (.iadd, 1) := by decide +kernel
theorem d_M_wordOf_27 : decode b_M_wordOf 27 = .ok (.putfield 164, 3) := by decide +kernel
theorem d_M_wordOf_30 : decode b_M_wordOf 30 = .ok (.goto (-30), 3) := by decide +kernel
theorem d_M_wordOf_33 : decode b_M_wordOf 33 = .ok (.return_, 1) := by decide +kernel
end
section
theorem d_D_spelled_0 : decode b_D_spelled 0 = .ok (.iconst 0, 1) := by decide +kernel
theorem d_D_spelled_1 : decode b_D_spelled 1 = .ok (.istore_n 3, 1) := by decide +kernel
theorem d_D_spelled_2 : decode b_D_spelled 2 = .ok (.iload_n 3, 1) := by decide +kernel
theorem d_D_spelled_3 : decode b_D_spelled 3 = .ok (.getstatic 171, 3) := by decide +kernel
theorem d_D_spelled_6 : decode b_D_spelled 6 = .ok (.arraylength, 1) := by decide +kernel
theorem d_D_spelled_7 : decode b_D_spelled 7 = .ok (.if_icmp .ge 32, 3) := by decide +kernel
theorem d_D_spelled_10 : decode b_D_spelled 10 = .ok (.aload_n 0, 1) := by decide +kernel
theorem d_D_spelled_11 : decode b_D_spelled 11 = .ok (.iload_n 1, 1) := by decide +kernel
theorem d_D_spelled_12 : decode b_D_spelled 12 = .ok (.iload_n 2, 1) := by decide +kernel
theorem d_D_spelled_13 : decode b_D_spelled 13 = .ok (.getstatic 171, 3) := by decide +kernel
theorem d_D_spelled_16 : decode b_D_spelled 16 = .ok (.iload_n 3, 1) := by decide +kernel
theorem d_D_spelled_17 : decode b_D_spelled 17 = .ok (.aaload, 1) := by decide +kernel
theorem d_D_spelled_18 : decode b_D_spelled 18 = .ok (.getfield 154, 3) := by decide +kernel
theorem d_D_spelled_21 : decode b_D_spelled 21 = .ok (.invokestatic 174, 3) := by decide +kernel
theorem d_D_spelled_24 : decode b_D_spelled 24 = .ok (.ifCond .eq 9, 3) := by decide +kernel
theorem d_D_spelled_27 : decode b_D_spelled 27 = .ok (.getstatic 171, 3) := by decide +kernel
theorem d_D_spelled_30 : decode b_D_spelled 30 = .ok (.iload_n 3, 1) := by decide +kernel
theorem d_D_spelled_31 : decode b_D_spelled 31 = .ok (.aaload, 1) := by decide +kernel
theorem d_D_spelled_32 : decode b_D_spelled 32 = .ok (.areturn, 1) := by decide +kernel
theorem d_D_spelled_33 : decode b_D_spelled 33 = .ok (.iinc 3 1, 3) := by decide +kernel
theorem d_D_spelled_36 : decode b_D_spelled 36 = .ok (.goto (-34), 3) := by decide +kernel
theorem d_D_spelled_39 : decode b_D_spelled 39 = .ok (.getstatic 5, 3) := by decide +kernel
theorem d_D_spelled_42 : decode b_D_spelled 42 = .ok (.areturn, 1) := by decide +kernel
theorem d_G_advance_0 : decode b_G_advance 0 = .ok (.aload_n 0, 1) := by decide +kernel
theorem d_G_advance_1 : decode b_G_advance 1 = .ok (.getfield 53, 3) := by decide +kernel
theorem d_G_advance_4 : decode b_G_advance 4 = .ok (.iconst 1, 1) := by decide +kernel
theorem d_G_advance_5 : decode b_G_advance 5 = .ok (.iadd, 1) := by decide +kernel
theorem d_G_advance_6 : decode b_G_advance 6 = .ok (.aload_n 0, 1) := by decide +kernel
theorem d_G_advance_7 : decode b_G_advance 7 = .ok (.getfield 9, 3) := by decide +kernel
theorem d_G_advance_10 : decode b_G_advance 10 = .ok (.getfield 75, 3) := by decide +kernel
theorem d_G_advance_13 : decode b_G_advance 13 = .ok (.if_icmp .ge 15, 3) := by decide +kernel
theorem d_G_advance_16 : decode b_G_advance 16 = .ok (.aload_n 0, 1) := by decide +kernel
theorem d_G_advance_17 : decode b_G_advance 17 = .ok (.getfield 53, 3) := by decide +kernel
theorem d_G_advance_20 : decode b_G_advance 20 = .ok (.iconst 1, 1) := by decide +kernel
theorem d_G_advance_21 : decode b_G_advance 21 = .ok (.iadd, 1) := by decide +kernel
theorem d_G_advance_22 : decode b_G_advance 22 = .ok (.sipush 401, 3) := by decide +kernel
theorem d_G_advance_25 : decode b_G_advance 25 = .ok (.if_icmp .lt 4, 3) := by decide +kernel
theorem d_G_advance_28 : decode b_G_advance 28 = .ok (.return_, 1) := by decide +kernel
theorem d_G_advance_29 : decode b_G_advance 29 = .ok (.aload_n 0, 1) := by decide +kernel
theorem d_G_advance_30 : decode b_G_advance 30 = .ok (.dup, 1) := by decide +kernel
theorem d_G_advance_31 : decode b_G_advance 31 = .ok (.getfield 53, 3) := by decide +kernel
theorem d_G_advance_34 : decode b_G_advance 34 = .ok (.iconst 1, 1) := by decide +kernel
theorem d_G_advance_35 : decode b_G_advance 35 = .ok (.iadd, 1) := by decide +kernel
theorem d_G_advance_36 : decode b_G_advance 36 = .ok (.putfield 53, 3) := by decide +kernel
theorem d_G_advance_39 : decode b_G_advance 39 = .ok (.aload_n 0, 1) := by decide +kernel
theorem d_G_advance_40 : decode b_G_advance 40 = .ok (.aload_n 0, 1) := by decide +kernel
theorem d_G_advance_41 : decode b_G_advance 41 = .ok (.getfield 9, 3) := by decide +kernel
theorem d_G_advance_44 : decode b_G_advance 44 = .ok (.getfield 78, 3) := by decide +kernel
theorem d_G_advance_47 : decode b_G_advance 47 = .ok (.aload_n 0, 1) := by decide +kernel
theorem d_G_advance_48 : decode b_G_advance 48 = .ok (.getfield 53, 3) := by decide +kernel
theorem d_G_advance_51 : decode b_G_advance 51 = .ok (.iaload, 1) := by decide +kernel
theorem d_G_advance_52 : decode b_G_advance 52 = .ok (.putfield 81, 3) := by decide +kernel
theorem d_G_advance_55 : decode b_G_advance 55 = .ok (.aload_n 0, 1) := by decide +kernel
theorem d_G_advance_56 : decode b_G_advance 56 = .ok (.getfield 9, 3) := by decide +kernel
theorem d_G_advance_59 : decode b_G_advance 59 = .ok (.getfield 84, 3) := by decide +kernel
theorem d_G_advance_62 : decode b_G_advance 62 = .ok (.aload_n 0, 1) := by decide +kernel
theorem d_G_advance_63 : decode b_G_advance 63 = .ok (.getfield 53, 3) := by decide +kernel
theorem d_G_advance_66 : decode b_G_advance 66 = .ok (.aaload, 1) := by decide +kernel
theorem d_G_advance_67 : decode b_G_advance 67 = .ok (.astore_n 1, 1) := by decide +kernel
theorem d_G_advance_68 : decode b_G_advance 68 = .ok (.aload_n 0, 1) := by decide +kernel
theorem d_G_advance_69 : decode b_G_advance 69 = .ok (.aload_n 0, 1) := by decide +kernel
theorem d_G_advance_70 : decode b_G_advance 70 = .ok (.getfield 81, 3) := by decide +kernel
theorem d_G_advance_73 : decode b_G_advance 73 = .ok (.iconst 1, 1) := by decide +kernel
theorem d_G_advance_74 : decode b_G_advance 74 = .ok (.if_icmp .ne 11, 3) := by decide +kernel
theorem d_G_advance_77 : decode b_G_advance 77 = .ok (.aload_n 1, 1) := by decide +kernel
theorem d_G_advance_78 : decode b_G_advance 78 = .ok (.ifnull 7, 3) := by decide +kernel
theorem d_G_advance_81 : decode b_G_advance 81 = .ok (.aload_n 1, 1) := by decide +kernel
theorem d_G_advance_82 : decode b_G_advance 82 = .ok (.goto 6, 3) := by decide +kernel
theorem d_G_advance_85 : decode b_G_advance 85 = .ok (.getstatic 19, 3) := by decide +kernel
theorem d_G_advance_88 : decode b_G_advance 88 = .ok (.putfield 25, 3) := by decide +kernel
theorem d_G_advance_91 : decode b_G_advance 91 = .ok (.aload_n 0, 1) := by decide +kernel
theorem d_G_advance_92 : decode b_G_advance 92 = .ok (.aload_n 0, 1) := by decide +kernel
theorem d_G_advance_93 : decode b_G_advance 93 = .ok (.getfield 81, 3) := by decide +kernel
theorem d_G_advance_96 : decode b_G_advance 96 = .ok (.iconst 2, 1) := by decide +kernel
theorem d_G_advance_97 : decode b_G_advance 97 = .ok (.if_icmp .ne 11, 3) := by decide +kernel
theorem d_G_advance_100 : decode b_G_advance 100 = .ok (.aload_n 1, 1) := by decide +kernel
theorem d_G_advance_101 : decode b_G_advance 101 = .ok (.ifnull 7, 3) := by decide +kernel
theorem d_G_advance_104 : decode b_G_advance 104 = .ok (.aload_n 1, 1) := by decide +kernel
theorem d_G_advance_105 : decode b_G_advance 105 = .ok (.goto 6, 3) := by decide +kernel
theorem d_G_advance_108 : decode b_G_advance 108 = .ok (.getstatic 19, 3) := by decide +kernel
theorem d_G_advance_111 : decode b_G_advance 111 = .ok (.putfield 28, 3) := by decide +kernel
theorem d_G_advance_114 : decode b_G_advance 114 = .ok (.aload_n 0, 1) := by decide +kernel
theorem d_G_advance_115 : decode b_G_advance 115 = .ok (.aload_n 0, 1) := by decide +kernel
theorem d_G_advance_116 : decode b_G_advance 116 = .ok (.getfield 9, 3) := by decide +kernel
theorem d_G_advance_119 : decode b_G_advance 119 = .ok (.getfield 88, 3) := by decide +kernel
theorem d_G_advance_122 : decode b_G_advance 122 = .ok (.aload_n 0, 1) := by decide +kernel
theorem d_G_advance_123 : decode b_G_advance 123 = .ok (.getfield 53, 3) := by decide +kernel
theorem d_G_advance_126 : decode b_G_advance 126 = .ok (.iaload, 1) := by decide +kernel
theorem d_G_advance_127 : decode b_G_advance 127 = .ok (.putfield 91, 3) := by decide +kernel
theorem d_G_advance_130 : decode b_G_advance 130 = .ok (.return_, 1) := by decide +kernel
theorem d_G_begin_0 : decode b_G_begin 0 = .ok (.aload_n 0, 1) := by decide +kernel
theorem d_G_begin_1 : decode b_G_begin 1 = .ok (.getfield 31, 3) := by decide +kernel
theorem d_G_begin_4 : decode b_G_begin 4 = .ok (.bipush 40, 2) := by decide +kernel
theorem d_G_begin_6 : decode b_G_begin 6 = .ok (.if_icmp .ge 17, 3) := by decide +kernel
theorem d_G_begin_9 : decode b_G_begin 9 = .ok (.aload_n 0, 1) := by decide +kernel
theorem d_G_begin_10 : decode b_G_begin 10 = .ok (.aload_n 0, 1) := by decide +kernel
theorem d_G_begin_11 : decode b_G_begin 11 = .ok (.getfield 25, 3) := by decide +kernel
theorem d_G_begin_14 : decode b_G_begin 14 = .ok (.getfield 155, 3) := by decide +kernel
theorem d_G_begin_17 : decode b_G_begin 17 = .ok (.invokevirtual 142, 3) := by decide +kernel
theorem d_G_begin_20 : decode b_G_begin 20 = .ok (.ifCond .eq 5, 3) := by decide +kernel
theorem d_G_begin_23 : decode b_G_begin 23 = .ok (.iconst 0, 1) := by decide +kernel
theorem d_G_begin_24 : decode b_G_begin 24 = .ok (.ireturn, 1) := by decide +kernel
theorem d_G_begin_25 : decode b_G_begin 25 = .ok (.aload_n 0, 1) := by decide +kernel
theorem d_G_begin_26 : decode b_G_begin 26 = .ok (.dup, 1) := by decide +kernel
theorem d_G_begin_27 : decode b_G_begin 27 = .ok (.getfield 31, 3) := by decide +kernel
theorem d_G_begin_30 : decode b_G_begin 30 = .ok (.iconst 1, 1) := by decide +kernel
theorem d_G_begin_31 : decode b_G_begin 31 = .ok (.iadd, 1) := by decide +kernel
theorem d_G_begin_32 : decode b_G_begin 32 = .ok (.putfield 31, 3) := by decide +kernel
theorem d_G_begin_35 : decode b_G_begin 35 = .ok (.aload_n 0, 1) := by decide +kernel
theorem d_G_begin_36 : decode b_G_begin 36 = .ok (.aload_n 0, 1) := by decide +kernel
theorem d_G_begin_37 : decode b_G_begin 37 = .ok (.getfield 25, 3) := by decide +kernel
theorem d_G_begin_40 : decode b_G_begin 40 = .ok (.getfield 158, 3) := by decide +kernel
theorem d_G_begin_43 : decode b_G_begin 43 = .ok (.putfield 47, 3) := by decide +kernel
theorem d_G_begin_46 : decode b_G_begin 46 = .ok (.aload_n 0, 1) := by decide +kernel
theorem d_G_begin_47 : decode b_G_begin 47 = .ok (.aload_n 0, 1) := by decide +kernel
theorem d_G_begin_48 : decode b_G_begin 48 = .ok (.getfield 25, 3) := by decide +kernel
theorem d_G_begin_51 : decode b_G_begin 51 = .ok (.invokevirtual 106, 3) := by decide +kernel
theorem d_G_begin_54 : decode b_G_begin 54 = .ok (.ireturn, 1) := by decide +kernel
theorem d_G_expect_0 : decode b_G_expect 0 = .ok (.aload_n 1, 1) := by decide +kernel
theorem d_G_expect_1 : decode b_G_expect 1 = .ok (.invokevirtual 93, 3) := by decide +kernel
theorem d_G_expect_4 : decode b_G_expect 4 = .ok (.iconst 1, 1) := by decide +kernel
theorem d_G_expect_5 : decode b_G_expect 5 = .ok (.isub, 1) := by decide +kernel
theorem d_G_expect_6 : decode b_G_expect 6 = .ok (.istore_n 2, 1) := by decide +kernel
theorem d_G_expect_7 : decode b_G_expect 7 = .ok (.iload_n 2, 1) := by decide +kernel
theorem d_G_expect_8 : decode b_G_expect 8 = .ok (.ifCond .lt 45, 3) := by decide +kernel
theorem d_G_expect_11 : decode b_G_expect 11 = .ok (.aload_n 0, 1) := by decide +kernel
theorem d_G_expect_12 : decode b_G_expect 12 = .ok (.getfield 50, 3) := by decide +kernel
theorem d_G_expect_15 : decode b_G_expect 15 = .ok (.aload_n 0, 1) := by decide +kernel
theorem d_G_expect_16 : decode b_G_expect 16 = .ok (.getfield 15, 3) := by decide +kernel
theorem d_G_expect_19 : decode b_G_expect 19 = .ok (.arraylength, 1) := by decide +kernel
theorem d_G_expect_20 : decode b_G_expect 20 = .ok (.if_icmp .ge 27, 3) := by decide +kernel
theorem d_G_expect_23 : decode b_G_expect 23 = .ok (.aload_n 0, 1) := by decide +kernel
theorem d_G_expect_24 : decode b_G_expect 24 = .ok (.getfield 15, 3) := by decide +kernel
theorem d_G_expect_27 : decode b_G_expect 27 = .ok (.aload_n 0, 1) := by decide +kernel
theorem d_G_expect_28 : decode b_G_expect 28 = .ok (.getfield 50, 3) := by decide +kernel
theorem d_G_expect_31 : decode b_G_expect 31 = .ok (.aload_n 1, 1) := by decide +kernel
theorem d_G_expect_32 : decode b_G_expect 32 = .ok (.iload_n 2, 1) := by decide +kernel
theorem d_G_expect_33 : decode b_G_expect 33 = .ok (.invokevirtual 99, 3) := by decide +kernel
theorem d_G_expect_36 : decode b_G_expect 36 = .ok (.castore, 1) := by decide +kernel
theorem d_G_expect_37 : decode b_G_expect 37 = .ok (.aload_n 0, 1) := by decide +kernel
theorem d_G_expect_38 : decode b_G_expect 38 = .ok (.dup, 1) := by decide +kernel
theorem d_G_expect_39 : decode b_G_expect 39 = .ok (.getfield 50, 3) := by decide +kernel
theorem d_G_expect_42 : decode b_G_expect 42 = .ok (.iconst 1, 1) := by decide +kernel
theorem d_G_expect_43 : decode b_G_expect 43 = .ok (.iadd, 1) := by decide +kernel
theorem d_G_expect_44 : decode b_G_expect 44 = .ok (.putfield 50, 3) := by decide +kernel
theorem d_G_expect_47 : decode b_G_expect 47 = .ok (.iinc 2 (-1), 3) := by decide +kernel
theorem d_G_expect_50 : decode b_G_expect 50 = .ok (.goto (-43), 3) := by decide +kernel
theorem d_G_expect_53 : decode b_G_expect 53 = .ok (.return_, 1) := by decide +kernel
theorem d_G_follow_0 : decode b_G_follow 0 = .ok (.aload_n 0, 1) := by decide +kernel
theorem d_G_follow_1 : decode b_G_follow 1 = .ok (.aload_n 1, 1) := by decide +kernel
theorem d_G_follow_2 : decode b_G_follow 2 = .ok (.getfield 151, 3) := by decide +kernel
theorem d_G_follow_5 : decode b_G_follow 5 = .ok (.invokevirtual 61, 3) := by decide +kernel
theorem d_G_follow_8 : decode b_G_follow 8 = .ok (.aload_n 0, 1) := by decide +kernel
theorem d_G_follow_9 : decode b_G_follow 9 = .ok (.invokevirtual 56, 3) := by decide +kernel
theorem d_G_follow_12 : decode b_G_follow 12 = .ok (.iconst 1, 1) := by decide +kernel
theorem d_G_follow_13 : decode b_G_follow 13 = .ok (.ireturn, 1) := by decide +kernel
theorem d_G_init_0 : decode b_G_init 0 = .ok (.aload_n 0, 1) := by decide +kernel
theorem d_G_init_1 : decode b_G_init 1 = .ok (.invokespecial 3, 3) := by decide +kernel
theorem d_G_init_4 : decode b_G_init 4 = .ok (.aload_n 0, 1) := by decide +kernel
theorem d_G_init_5 : decode b_G_init 5 = .ok (.aload_n 1, 1) := by decide +kernel
theorem d_G_init_6 : decode b_G_init 6 = .ok (.putfield 9, 3) := by decide +kernel
theorem d_G_init_9 : decode b_G_init 9 = .ok (.aload_n 0, 1) := by decide +kernel
theorem d_G_init_10 : decode b_G_init 10 = .ok (.sipush 200, 3) := by decide +kernel
theorem d_G_init_13 : decode b_G_init 13 = .ok (.newarray .char, 2) := by decide +kernel
theorem d_G_init_15 : decode b_G_init 15 = .ok (.putfield 15, 3) := by decide +kernel
theorem d_G_init_18 : decode b_G_init 18 = .ok (.aload_n 0, 1) := by decide +kernel
theorem d_G_init_19 : decode b_G_init 19 = .ok (.getstatic 19, 3) := by decide +kernel
theorem d_G_init_22 : decode b_G_init 22 = .ok (.putfield 25, 3) := by decide +kernel
theorem d_G_init_25 : decode b_G_init 25 = .ok (.aload_n 0, 1) := by decide +kernel
theorem d_G_init_26 : decode b_G_init 26 = .ok (.getstatic 19, 3) := by decide +kernel
theorem d_G_init_29 : decode b_G_init 29 = .ok (.putfield 28, 3) := by decide +kernel
theorem d_G_init_32 : decode b_G_init 32 = .ok (.return_, 1) := by decide +kernel
theorem d_G_lacks_0 : decode b_G_lacks 0 = .ok (.aload_n 0, 1) := by decide +kernel
theorem d_G_lacks_1 : decode b_G_lacks 1 = .ok (.getfield 38, 3) := by decide +kernel
theorem d_G_lacks_4 : decode b_G_lacks 4 = .ok (.iload_n 1, 1) := by decide +kernel
theorem d_G_lacks_5 : decode b_G_lacks 5 = .ok (.iand, 1) := by decide +kernel
theorem d_G_lacks_6 : decode b_G_lacks 6 = .ok (.iload_n 1, 1) := by decide +kernel
theorem d_G_lacks_7 : decode b_G_lacks 7 = .ok (.if_icmp .eq 7, 3) := by decide +kernel
theorem d_G_lacks_10 : decode b_G_lacks 10 = .ok (.iconst 1, 1) := by decide +kernel
theorem d_G_lacks_11 : decode b_G_lacks 11 = .ok (.goto 4, 3) := by decide +kernel
theorem d_G_lacks_14 : decode b_G_lacks 14 = .ok (.iconst 0, 1) := by decide +kernel
theorem d_G_lacks_15 : decode b_G_lacks 15 = .ok (.ireturn, 1) := by decide +kernel
theorem d_G_reads_0 : decode b_G_reads 0 = .ok (.aload_n 0, 1) := by decide +kernel
theorem d_G_reads_1 : decode b_G_reads 1 = .ok (.iconst 0, 1) := by decide +kernel
theorem d_G_reads_2 : decode b_G_reads 2 = .ok (.putfield 31, 3) := by decide +kernel
theorem d_G_reads_5 : decode b_G_reads 5 = .ok (.aload_n 0, 1) := by decide +kernel
theorem d_G_reads_6 : decode b_G_reads 6 = .ok (.iconst 0, 1) := by decide +kernel
theorem d_G_reads_7 : decode b_G_reads 7 = .ok (.putfield 35, 3) := by decide +kernel
theorem d_G_reads_10 : decode b_G_reads 10 = .ok (.aload_n 0, 1) := by decide +kernel
theorem d_G_reads_11 : decode b_G_reads 11 = .ok (.iconst 0, 1) := by decide +kernel
theorem d_G_reads_12 : decode b_G_reads 12 = .ok (.putfield 38, 3) := by decide +kernel
theorem d_G_reads_15 : decode b_G_reads 15 = .ok (.aload_n 0, 1) := by decide +kernel
theorem d_G_reads_16 : decode b_G_reads 16 = .ok (.iconst 0, 1) := by decide +kernel
theorem d_G_reads_17 : decode b_G_reads 17 = .ok (.putfield 41, 3) := by decide +kernel
theorem d_G_reads_20 : decode b_G_reads 20 = .ok (.aload_n 0, 1) := by decide +kernel
theorem d_G_reads_21 : decode b_G_reads 21 = .ok (.iconst 0, 1) := by decide +kernel
theorem d_G_reads_22 : decode b_G_reads 22 = .ok (.putfield 44, 3) := by decide +kernel
theorem d_G_reads_25 : decode b_G_reads 25 = .ok (.aload_n 0, 1) := by decide +kernel
theorem d_G_reads_26 : decode b_G_reads 26 = .ok (.iconst 0, 1) := by decide +kernel
theorem d_G_reads_27 : decode b_G_reads 27 = .ok (.putfield 47, 3) := by decide +kernel
theorem d_G_reads_30 : decode b_G_reads 30 = .ok (.aload_n 0, 1) := by decide +kernel
theorem d_G_reads_31 : decode b_G_reads 31 = .ok (.iconst 0, 1) := by decide +kernel
theorem d_G_reads_32 : decode b_G_reads 32 = .ok (.putfield 50, 3) := by decide +kernel
theorem d_G_reads_35 : decode b_G_reads 35 = .ok (.aload_n 0, 1) := by decide +kernel
theorem d_G_reads_36 : decode b_G_reads 36 = .ok (.iconst (-1), 1) := by decide +kernel
theorem d_G_reads_37 : decode b_G_reads 37 = .ok (.putfield 53, 3) := by decide +kernel
theorem d_G_reads_40 : decode b_G_reads 40 = .ok (.aload_n 0, 1) := by decide +kernel
theorem d_G_reads_41 : decode b_G_reads 41 = .ok (.invokevirtual 56, 3) := by decide +kernel
theorem d_G_reads_44 : decode b_G_reads 44 = .ok (.aload_n 0, 1) := by decide +kernel
theorem d_G_reads_45 : decode b_G_reads 45 = .ok (.ldc 59, 2) := by decide +kernel
theorem d_G_reads_47 : decode b_G_reads 47 = .ok (.invokevirtual 61, 3) := by decide +kernel
theorem d_G_reads_50 : decode b_G_reads 50 = .ok (.iconst 0, 1) := by decide +kernel
theorem d_G_reads_51 : decode b_G_reads 51 = .ok (.istore_n 1, 1) := by decide +kernel
theorem d_G_reads_52 : decode b_G_reads 52 = .ok (.iload_n 1, 1) := by decide +kernel
theorem d_G_reads_53 : decode b_G_reads 53 = .ok (.sipush 10000, 3) := by decide +kernel
theorem d_G_reads_56 : decode b_G_reads 56 = .ok (.if_icmp .ge 44, 3) := by decide +kernel
theorem d_G_reads_59 : decode b_G_reads 59 = .ok (.aload_n 0, 1) := by decide +kernel
theorem d_G_reads_60 : decode b_G_reads 60 = .ok (.getfield 50, 3) := by decide +kernel
theorem d_G_reads_63 : decode b_G_reads 63 = .ok (.ifCond .le 37, 3) := by decide +kernel
theorem d_G_reads_66 : decode b_G_reads 66 = .ok (.aload_n 0, 1) := by decide +kernel
theorem d_G_reads_67 : decode b_G_reads 67 = .ok (.dup, 1) := by decide +kernel
theorem d_G_reads_68 : decode b_G_reads 68 = .ok (.getfield 50, 3) := by decide +kernel
theorem d_G_reads_71 : decode b_G_reads 71 = .ok (.iconst 1, 1) := by decide +kernel
theorem d_G_reads_72 : decode b_G_reads 72 = .ok (.isub, 1) := by decide +kernel
theorem d_G_reads_73 : decode b_G_reads 73 = .ok (.putfield 50, 3) := by decide +kernel
theorem d_G_reads_76 : decode b_G_reads 76 = .ok (.aload_n 0, 1) := by decide +kernel
theorem d_G_reads_77 : decode b_G_reads 77 = .ok (.aload_n 0, 1) := by decide +kernel
theorem d_G_reads_78 : decode b_G_reads 78 = .ok (.getfield 15, 3) := by decide +kernel
theorem d_G_reads_81 : decode b_G_reads 81 = .ok (.aload_n 0, 1) := by decide +kernel
theorem d_G_reads_82 : decode b_G_reads 82 = .ok (.getfield 50, 3) := by decide +kernel
theorem d_G_reads_85 : decode b_G_reads 85 = .ok (.caload, 1) := by decide +kernel
theorem d_G_reads_86 : decode b_G_reads 86 = .ok (.invokevirtual 65, 3) := by decide +kernel
theorem d_G_reads_89 : decode b_G_reads 89 = .ok (.ifCond .ne 5, 3) := by decide +kernel
theorem d_G_reads_92 : decode b_G_reads 92 = .ok (.iconst 0, 1) := by decide +kernel
theorem d_G_reads_93 : decode b_G_reads 93 = .ok (.ireturn, 1) := by decide +kernel
theorem d_G_reads_94 : decode b_G_reads 94 = .ok (.iinc 1 1, 3) := by decide +kernel
theorem d_G_reads_97 : decode b_G_reads 97 = .ok (.goto (-45), 3) := by decide +kernel
theorem d_G_reads_100 : decode b_G_reads 100 = .ok (.aload_n 0, 1) := by decide +kernel
theorem d_G_reads_101 : decode b_G_reads 101 = .ok (.getfield 50, 3) := by decide +kernel
theorem d_G_reads_104 : decode b_G_reads 104 = .ok (.ifCond .ne 7, 3) := by decide +kernel
theorem d_G_reads_107 : decode b_G_reads 107 = .ok (.iconst 1, 1) := by decide +kernel
theorem d_G_reads_108 : decode b_G_reads 108 = .ok (.goto 4, 3) := by decide +kernel
theorem d_G_reads_111 : decode b_G_reads 111 = .ok (.iconst 0, 1) := by decide +kernel
theorem d_G_reads_112 : decode b_G_reads 112 = .ok (.ireturn, 1) := by decide +kernel
theorem d_G_standsAt_0 : decode b_G_standsAt 0 = .ok (.aload_n 0, 1) := by decide +kernel
theorem d_G_standsAt_1 : decode b_G_standsAt 1 = .ok (.getfield 53, 3) := by decide +kernel
theorem d_G_standsAt_4 : decode b_G_standsAt 4 = .ok (.ifCond .lt 28, 3) := by decide +kernel
theorem d_G_standsAt_7 : decode b_G_standsAt 7 = .ok (.aload_n 0, 1) := by decide +kernel
theorem d_G_standsAt_8 : decode b_G_standsAt 8 = .ok (.getfield 53, 3) := by decide +kernel
theorem d_G_standsAt_11 : decode b_G_standsAt 11 = .ok (.sipush 401, 3) := by decide +kernel
theorem d_G_standsAt_14 : decode b_G_standsAt 14 = .ok (.if_icmp .ge 18, 3) := by decide +kernel
theorem d_G_standsAt_17 : decode b_G_standsAt 17 = .ok (.aload_n 0, 1) := by decide +kernel
theorem d_G_standsAt_18 : decode b_G_standsAt 18 = .ok (.getfield 9, 3) := by decide +kernel
theorem d_G_standsAt_21 : decode b_G_standsAt 21 = .ok (.getfield 69, 3) := by decide +kernel
theorem d_G_standsAt_24 : decode b_G_standsAt 24 = .ok (.aload_n 0, 1) := by decide +kernel
theorem d_G_standsAt_25 : decode b_G_standsAt 25 = .ok (.getfield 53, 3) := by decide +kernel
theorem d_G_standsAt_28 : decode b_G_standsAt 28 = .ok (.iaload, 1) := by decide +kernel
theorem d_G_standsAt_29 : decode b_G_standsAt 29 = .ok (.goto 4, 3) := by decide +kernel
theorem d_G_standsAt_32 : decode b_G_standsAt 32 = .ok (.iconst 0, 1) := by decide +kernel
theorem d_G_standsAt_33 : decode b_G_standsAt 33 = .ok (.ireturn, 1) := by decide +kernel
theorem d_G_take_0 : decode b_G_take 0 = .ok (.iload_n 1, 1) := by decide +kernel
theorem d_G_take_1 : decode b_G_take 1 = .ok (.tableswitch 532 46 118 #[518, 532, 532, 532, 532, 532, 532, 532, 532, 532, 532, 532, 532, 532, 532, 532, 532, 532, 532, 532, 532, 532, 532, 532, 532, 532, 532, 532, 532, 532, 532, 532, 532, 532, 532, 532, 532, 532, 532, 532, 532, 532, 532, 532, 532, 532, 532, 532, 532, 532, 532, 494, 532, 334, 403, 361, 486, 398, 532, 532, 532, 462, 502, 356, 440, 454, 532, 307, 510, 446, 339, 532, 344], 307) := by decide +kernel
theorem d_G_take_308 : decode b_G_take 308 = .ok (.aload_n 0, 1) := by decide +kernel
theorem d_G_take_309 : decode b_G_take 309 = .ok (.getfield 25, 3) := by decide +kernel
theorem d_G_take_312 : decode b_G_take 312 = .ok (.getstatic 103, 3) := by decide +kernel
theorem d_G_take_315 : decode b_G_take 315 = .ok (.if_acmp .ne 14, 3) := by decide +kernel
theorem d_G_take_318 : decode b_G_take 318 = .ok (.aload_n 0, 1) := by decide +kernel
theorem d_G_take_319 : decode b_G_take 319 = .ok (.aload_n 0, 1) := by decide +kernel
theorem d_G_take_320 : decode b_G_take 320 = .ok (.getfield 25, 3) := by decide +kernel
theorem d_G_take_323 : decode b_G_take 323 = .ok (.invokevirtual 106, 3) := by decide +kernel
theorem d_G_take_326 : decode b_G_take 326 = .ok (.ifCond .eq 7, 3) := by decide +kernel
theorem d_G_take_329 : decode b_G_take 329 = .ok (.iconst 1, 1) := by decide +kernel
theorem d_G_take_330 : decode b_G_take 330 = .ok (.goto 4, 3) := by decide +kernel
theorem d_G_take_333 : decode b_G_take 333 = .ok (.iconst 0, 1) := by decide +kernel
theorem d_G_take_334 : decode b_G_take 334 = .ok (.ireturn, 1) := by decide +kernel
theorem d_G_take_335 : decode b_G_take 335 = .ok (.aload_n 0, 1) := by decide +kernel
theorem d_G_take_336 : decode b_G_take 336 = .ok (.invokevirtual 110, 3) := by decide +kernel
theorem d_G_take_339 : decode b_G_take 339 = .ok (.ireturn, 1) := by decide +kernel
theorem d_G_take_340 : decode b_G_take 340 = .ok (.aload_n 0, 1) := by decide +kernel
theorem d_G_take_341 : decode b_G_take 341 = .ok (.invokevirtual 114, 3) := by decide +kernel
theorem d_G_take_344 : decode b_G_take 344 = .ok (.ireturn, 1) := by decide +kernel
theorem d_G_take_345 : decode b_G_take 345 = .ok (.aload_n 0, 1) := by decide +kernel
theorem d_G_take_346 : decode b_G_take 346 = .ok (.dup, 1) := by decide +kernel
theorem d_G_take_347 : decode b_G_take 347 = .ok (.getfield 44, 3) := by decide +kernel
theorem d_G_take_350 : decode b_G_take 350 = .ok (.iconst 1, 1) := by decide +kernel
theorem d_G_take_351 : decode b_G_take 351 = .ok (.isub, 1) := by decide +kernel
theorem d_G_take_352 : decode b_G_take 352 = .ok (.putfield 44, 3) := by decide +kernel
theorem d_G_take_355 : decode b_G_take 355 = .ok (.iconst 1, 1) := by decide +kernel
theorem d_G_take_356 : decode b_G_take 356 = .ok (.ireturn, 1) := by decide +kernel
theorem d_G_take_357 : decode b_G_take 357 = .ok (.aload_n 0, 1) := by decide +kernel
theorem d_G_take_358 : decode b_G_take 358 = .ok (.invokevirtual 117, 3) := by decide +kernel
theorem d_G_take_361 : decode b_G_take 361 = .ok (.ireturn, 1) := by decide +kernel
theorem d_G_take_362 : decode b_G_take 362 = .ok (.aload_n 0, 1) := by decide +kernel
theorem d_G_take_363 : decode b_G_take 363 = .ok (.getfield 25, 3) := by decide +kernel
theorem d_G_take_366 : decode b_G_take 366 = .ok (.getstatic 120, 3) := by decide +kernel
theorem d_G_take_369 : decode b_G_take 369 = .ok (.if_acmp .eq 13, 3) := by decide +kernel
theorem d_G_take_372 : decode b_G_take 372 = .ok (.aload_n 0, 1) := by decide +kernel
theorem d_G_take_373 : decode b_G_take 373 = .ok (.getfield 25, 3) := by decide +kernel
theorem d_G_take_376 : decode b_G_take 376 = .ok (.getstatic 123, 3) := by decide +kernel
theorem d_G_take_379 : decode b_G_take 379 = .ok (.if_acmp .ne 14, 3) := by decide +kernel
theorem d_G_take_382 : decode b_G_take 382 = .ok (.aload_n 0, 1) := by decide +kernel
theorem d_G_take_383 : decode b_G_take 383 = .ok (.aload_n 0, 1) := by decide +kernel
theorem d_G_take_384 : decode b_G_take 384 = .ok (.getfield 25, 3) := by decide +kernel
theorem d_G_take_387 : decode b_G_take 387 = .ok (.invokevirtual 106, 3) := by decide +kernel
theorem d_G_take_390 : decode b_G_take 390 = .ok (.ifCond .eq 7, 3) := by decide +kernel
theorem d_G_take_393 : decode b_G_take 393 = .ok (.iconst 1, 1) := by decide +kernel
theorem d_G_take_394 : decode b_G_take 394 = .ok (.goto 4, 3) := by decide +kernel
theorem d_G_take_397 : decode b_G_take 397 = .ok (.iconst 0, 1) := by decide +kernel
theorem d_G_take_398 : decode b_G_take 398 = .ok (.ireturn, 1) := by decide +kernel
theorem d_G_take_399 : decode b_G_take 399 = .ok (.aload_n 0, 1) := by decide +kernel
theorem d_G_take_400 : decode b_G_take 400 = .ok (.invokevirtual 126, 3) := by decide +kernel
theorem d_G_take_403 : decode b_G_take 403 = .ok (.ireturn, 1) := by decide +kernel
theorem d_G_take_404 : decode b_G_take 404 = .ok (.aload_n 0, 1) := by decide +kernel
theorem d_G_take_405 : decode b_G_take 405 = .ok (.getfield 28, 3) := by decide +kernel
theorem d_G_take_408 : decode b_G_take 408 = .ok (.getstatic 129, 3) := by decide +kernel
theorem d_G_take_411 : decode b_G_take 411 = .ok (.if_acmp .eq 13, 3) := by decide +kernel
theorem d_G_take_414 : decode b_G_take 414 = .ok (.aload_n 0, 1) := by decide +kernel
theorem d_G_take_415 : decode b_G_take 415 = .ok (.getfield 28, 3) := by decide +kernel
theorem d_G_take_418 : decode b_G_take 418 = .ok (.getstatic 132, 3) := by decide +kernel
theorem d_G_take_421 : decode b_G_take 421 = .ok (.if_acmp .ne 18, 3) := by decide +kernel
theorem d_G_take_424 : decode b_G_take 424 = .ok (.aload_n 0, 1) := by decide +kernel
theorem d_G_take_425 : decode b_G_take 425 = .ok (.aload_n 0, 1) := by decide +kernel
theorem d_G_take_426 : decode b_G_take 426 = .ok (.getfield 28, 3) := by decide +kernel
theorem d_G_take_429 : decode b_G_take 429 = .ok (.invokevirtual 106, 3) := by decide +kernel
theorem d_G_take_432 : decode b_G_take 432 = .ok (.ifCond .eq 7, 3) := by decide +kernel
theorem d_G_take_435 : decode b_G_take 435 = .ok (.iconst 1, 1) := by decide +kernel
theorem d_G_take_436 : decode b_G_take 436 = .ok (.goto 4, 3) := by decide +kernel
theorem d_G_take_439 : decode b_G_take 439 = .ok (.iconst 0, 1) := by decide +kernel
theorem d_G_take_440 : decode b_G_take 440 = .ok (.ireturn, 1) := by decide +kernel
theorem d_G_take_441 : decode b_G_take 441 = .ok (.aload_n 0, 1) := by decide +kernel
theorem d_G_take_442 : decode b_G_take 442 = .ok (.iconst 3, 1) := by decide +kernel
theorem d_G_take_443 : decode b_G_take 443 = .ok (.invokevirtual 135, 3) := by decide +kernel
theorem d_G_take_446 : decode b_G_take 446 = .ok (.ireturn, 1) := by decide +kernel
theorem d_G_take_447 : decode b_G_take 447 = .ok (.aload_n 0, 1) := by decide +kernel
theorem d_G_take_448 : decode b_G_take 448 = .ok (.sipush 256, 3) := by decide +kernel
theorem d_G_take_451 : decode b_G_take 451 = .ok (.invokevirtual 139, 3) := by decide +kernel
theorem d_G_take_454 : decode b_G_take 454 = .ok (.ireturn, 1) := by decide +kernel
theorem d_G_take_455 : decode b_G_take 455 = .ok (.aload_n 0, 1) := by decide +kernel
theorem d_G_take_456 : decode b_G_take 456 = .ok (.sipush 512, 3) := by decide +kernel
theorem d_G_take_459 : decode b_G_take 459 = .ok (.invokevirtual 139, 3) := by decide +kernel
theorem d_G_take_462 : decode b_G_take 462 = .ok (.ireturn, 1) := by decide +kernel
theorem d_G_take_463 : decode b_G_take 463 = .ok (.aload_n 0, 1) := by decide +kernel
theorem d_G_take_464 : decode b_G_take 464 = .ok (.aload_n 0, 1) := by decide +kernel
theorem d_G_take_465 : decode b_G_take 465 = .ok (.sipush 128, 3) := by decide +kernel
theorem d_G_take_468 : decode b_G_take 468 = .ok (.invokevirtual 142, 3) := by decide +kernel
theorem d_G_take_471 : decode b_G_take 471 = .ok (.ifCond .eq 9, 3) := by decide +kernel
theorem d_G_take_474 : decode b_G_take 474 = .ok (.sipush 1024, 3) := by decide +kernel
theorem d_G_take_477 : decode b_G_take 477 = .ok (.goto 6, 3) := by decide +kernel
theorem d_G_take_480 : decode b_G_take 480 = .ok (.sipush 3072, 3) := by decide +kernel
theorem d_G_take_483 : decode b_G_take 483 = .ok (.invokevirtual 139, 3) := by decide +kernel
theorem d_G_take_486 : decode b_G_take 486 = .ok (.ireturn, 1) := by decide +kernel
theorem d_G_take_487 : decode b_G_take 487 = .ok (.aload_n 0, 1) := by decide +kernel
theorem d_G_take_488 : decode b_G_take 488 = .ok (.sipush 4096, 3) := by decide +kernel
theorem d_G_take_491 : decode b_G_take 491 = .ok (.invokevirtual 139, 3) := by decide +kernel
theorem d_G_take_494 : decode b_G_take 494 = .ok (.ireturn, 1) := by decide +kernel
theorem d_G_take_495 : decode b_G_take 495 = .ok (.aload_n 0, 1) := by decide +kernel
theorem d_G_take_496 : decode b_G_take 496 = .ok (.sipush 8192, 3) := by decide +kernel
theorem d_G_take_499 : decode b_G_take 499 = .ok (.invokevirtual 139, 3) := by decide +kernel
theorem d_G_take_502 : decode b_G_take 502 = .ok (.ireturn, 1) := by decide +kernel
theorem d_G_take_503 : decode b_G_take 503 = .ok (.aload_n 0, 1) := by decide +kernel
theorem d_G_take_504 : decode b_G_take 504 = .ok (.sipush 256, 3) := by decide +kernel
theorem d_G_take_507 : decode b_G_take 507 = .ok (.invokevirtual 145, 3) := by decide +kernel
theorem d_G_take_510 : decode b_G_take 510 = .ok (.ireturn, 1) := by decide +kernel
theorem d_G_take_511 : decode b_G_take 511 = .ok (.aload_n 0, 1) := by decide +kernel
theorem d_G_take_512 : decode b_G_take 512 = .ok (.sipush 255, 3) := by decide +kernel
theorem d_G_take_515 : decode b_G_take 515 = .ok (.invokevirtual 145, 3) := by decide +kernel
theorem d_G_take_518 : decode b_G_take 518 = .ok (.ireturn, 1) := by decide +kernel
theorem d_G_take_519 : decode b_G_take 519 = .ok (.aload_n 0, 1) := by decide +kernel
theorem d_G_take_520 : decode b_G_take 520 = .ok (.getfield 81, 3) := by decide +kernel
theorem d_G_take_523 : decode b_G_take 523 = .ok (.iconst 5, 1) := by decide +kernel
theorem d_G_take_524 : decode b_G_take 524 = .ok (.if_icmp .ne 7, 3) := by decide +kernel
theorem d_G_take_527 : decode b_G_take 527 = .ok (.iconst 1, 1) := by decide +kernel
theorem d_G_take_528 : decode b_G_take 528 = .ok (.goto 4, 3) := by decide +kernel
theorem d_G_take_531 : decode b_G_take 531 = .ok (.iconst 0, 1) := by decide +kernel
theorem d_G_take_532 : decode b_G_take 532 = .ok (.ireturn, 1) := by decide +kernel
theorem d_G_take_533 : decode b_G_take 533 = .ok (.aload_n 0, 1) := by decide +kernel
theorem d_G_take_534 : decode b_G_take 534 = .ok (.iload_n 1, 1) := by decide +kernel
theorem d_G_take_535 : decode b_G_take 535 = .ok (.invokevirtual 148, 3) := by decide +kernel
theorem d_G_take_538 : decode b_G_take 538 = .ok (.ireturn, 1) := by decide +kernel
theorem d_G_takeCommands_0 : decode b_G_takeCommands 0 = .ok (.aload_n 0, 1) := by decide +kernel
theorem d_G_takeCommands_1 : decode b_G_takeCommands 1 = .ok (.getfield 25, 3) := by decide +kernel
theorem d_G_takeCommands_4 : decode b_G_takeCommands 4 = .ok (.getfield 161, 3) := by decide +kernel
theorem d_G_takeCommands_7 : decode b_G_takeCommands 7 = .ok (.iconst 1, 1) := by decide +kernel
theorem d_G_takeCommands_8 : decode b_G_takeCommands 8 = .ok (.if_icmp .eq 5, 3) := by decide +kernel
theorem d_G_takeCommands_11 : decode b_G_takeCommands 11 = .ok (.iconst 1, 1) := by decide +kernel
theorem d_G_takeCommands_12 : decode b_G_takeCommands 12 = .ok (.ireturn, 1) := by decide +kernel
theorem d_G_takeCommands_13 : decode b_G_takeCommands 13 = .ok (.aload_n 0, 1) := by decide +kernel
theorem d_G_takeCommands_14 : decode b_G_takeCommands 14 = .ok (.getfield 25, 3) := by decide +kernel
theorem d_G_takeCommands_17 : decode b_G_takeCommands 17 = .ok (.getstatic 164, 3) := by decide +kernel
theorem d_G_takeCommands_20 : decode b_G_takeCommands 20 = .ok (.if_acmp .ne 14, 3) := by decide +kernel
theorem d_G_takeCommands_23 : decode b_G_takeCommands 23 = .ok (.aload_n 0, 1) := by decide +kernel
theorem d_G_takeCommands_24 : decode b_G_takeCommands 24 = .ok (.getfield 41, 3) := by decide +kernel
theorem d_G_takeCommands_27 : decode b_G_takeCommands 27 = .ok (.bipush 8, 2) := by decide +kernel
theorem d_G_takeCommands_29 : decode b_G_takeCommands 29 = .ok (.if_icmp .lt 5, 3) := by decide +kernel
theorem d_G_takeCommands_32 : decode b_G_takeCommands 32 = .ok (.iconst 0, 1) := by decide +kernel
theorem d_G_takeCommands_33 : decode b_G_takeCommands 33 = .ok (.ireturn, 1) := by decide +kernel
theorem d_G_takeCommands_34 : decode b_G_takeCommands 34 = .ok (.aload_n 0, 1) := by decide +kernel
theorem d_G_takeCommands_35 : decode b_G_takeCommands 35 = .ok (.ldc 167, 2) := by decide +kernel
theorem d_G_takeCommands_37 : decode b_G_takeCommands 37 = .ok (.invokevirtual 61, 3) := by decide +kernel
theorem d_G_takeCommands_40 : decode b_G_takeCommands 40 = .ok (.aload_n 0, 1) := by decide +kernel
theorem d_G_takeCommands_41 : decode b_G_takeCommands 41 = .ok (.invokevirtual 169, 3) := by decide +kernel
theorem d_G_takeCommands_44 : decode b_G_takeCommands 44 = .ok (.ireturn, 1) := by decide +kernel
theorem d_G_takeKind_0 : decode b_G_takeKind 0 = .ok (.aload_n 0, 1) := by decide +kernel
theorem d_G_takeKind_1 : decode b_G_takeKind 1 = .ok (.getfield 81, 3) := by decide +kernel
theorem d_G_takeKind_4 : decode b_G_takeKind 4 = .ok (.iload_n 1, 1) := by decide +kernel
theorem d_G_takeKind_5 : decode b_G_takeKind 5 = .ok (.if_icmp .eq 5, 3) := by decide +kernel
theorem d_G_takeKind_8 : decode b_G_takeKind 8 = .ok (.iconst 0, 1) := by decide +kernel
theorem d_G_takeKind_9 : decode b_G_takeKind 9 = .ok (.ireturn, 1) := by decide +kernel
theorem d_G_takeKind_10 : decode b_G_takeKind 10 = .ok (.aload_n 0, 1) := by decide +kernel
theorem d_G_takeKind_11 : decode b_G_takeKind 11 = .ok (.invokevirtual 56, 3) := by decide +kernel
theorem d_G_takeKind_14 : decode b_G_takeKind 14 = .ok (.iconst 1, 1) := by decide +kernel
theorem d_G_takeKind_15 : decode b_G_takeKind 15 = .ok (.ireturn, 1) := by decide +kernel
theorem d_G_takeMoreTests_0 : decode b_G_takeMoreTests 0 = .ok (.aload_n 0, 1) := by decide +kernel
theorem d_G_takeMoreTests_1 : decode b_G_takeMoreTests 1 = .ok (.getfield 81, 3) := by decide +kernel
theorem d_G_takeMoreTests_4 : decode b_G_takeMoreTests 4 = .ok (.bipush 44, 2) := by decide +kernel
theorem d_G_takeMoreTests_6 : decode b_G_takeMoreTests 6 = .ok (.if_icmp .eq 5, 3) := by decide +kernel
theorem d_G_takeMoreTests_9 : decode b_G_takeMoreTests 9 = .ok (.iconst 1, 1) := by decide +kernel
theorem d_G_takeMoreTests_10 : decode b_G_takeMoreTests 10 = .ok (.ireturn, 1) := by decide +kernel
theorem d_G_takeMoreTests_11 : decode b_G_takeMoreTests 11 = .ok (.aload_n 0, 1) := by decide +kernel
theorem d_G_takeMoreTests_12 : decode b_G_takeMoreTests 12 = .ok (.invokevirtual 56, 3) := by decide +kernel
theorem d_G_takeMoreTests_15 : decode b_G_takeMoreTests 15 = .ok (.aload_n 0, 1) := by decide +kernel
theorem d_G_takeMoreTests_16 : decode b_G_takeMoreTests 16 = .ok (.ldc 174, 2) := by decide +kernel
theorem d_G_takeMoreTests_18 : decode b_G_takeMoreTests 18 = .ok (.invokevirtual 61, 3) := by decide +kernel
theorem d_G_takeMoreTests_21 : decode b_G_takeMoreTests 21 = .ok (.iconst 1, 1) := by decide +kernel
theorem d_G_takeMoreTests_22 : decode b_G_takeMoreTests 22 = .ok (.ireturn, 1) := by decide +kernel
theorem d_G_takeSign_0 : decode b_G_takeSign 0 = .ok (.aload_n 0, 1) := by decide +kernel
theorem d_G_takeSign_1 : decode b_G_takeSign 1 = .ok (.iload_n 1, 1) := by decide +kernel
theorem d_G_takeSign_2 : decode b_G_takeSign 2 = .ok (.invokevirtual 135, 3) := by decide +kernel
theorem d_G_takeSign_5 : decode b_G_takeSign 5 = .ok (.ifCond .ne 5, 3) := by decide +kernel
theorem d_G_takeSign_8 : decode b_G_takeSign 8 = .ok (.iconst 0, 1) := by decide +kernel
theorem d_G_takeSign_9 : decode b_G_takeSign 9 = .ok (.ireturn, 1) := by decide +kernel
theorem d_G_takeSign_10 : decode b_G_takeSign 10 = .ok (.iload_n 1, 1) := by decide +kernel
theorem d_G_takeSign_11 : decode b_G_takeSign 11 = .ok (.bipush 123, 2) := by decide +kernel
theorem d_G_takeSign_13 : decode b_G_takeSign 13 = .ok (.if_icmp .ne 16, 3) := by decide +kernel
theorem d_G_takeSign_16 : decode b_G_takeSign 16 = .ok (.aload_n 0, 1) := by decide +kernel
theorem d_G_takeSign_17 : decode b_G_takeSign 17 = .ok (.dup, 1) := by decide +kernel
theorem d_G_takeSign_18 : decode b_G_takeSign 18 = .ok (.getfield 41, 3) := by decide +kernel
theorem d_G_takeSign_21 : decode b_G_takeSign 21 = .ok (.iconst 1, 1) := by decide +kernel
theorem d_G_takeSign_22 : decode b_G_takeSign 22 = .ok (.iadd, 1) := by decide +kernel
theorem d_G_takeSign_23 : decode b_G_takeSign 23 = .ok (.putfield 41, 3) := by decide +kernel
theorem d_G_takeSign_26 : decode b_G_takeSign 26 = .ok (.goto 19, 3) := by decide +kernel
theorem d_G_takeSign_29 : decode b_G_takeSign 29 = .ok (.iload_n 1, 1) := by decide +kernel
theorem d_G_takeSign_30 : decode b_G_takeSign 30 = .ok (.bipush 125, 2) := by decide +kernel
theorem d_G_takeSign_32 : decode b_G_takeSign 32 = .ok (.if_icmp .ne 13, 3) := by decide +kernel
theorem d_G_takeSign_35 : decode b_G_takeSign 35 = .ok (.aload_n 0, 1) := by decide +kernel
theorem d_G_takeSign_36 : decode b_G_takeSign 36 = .ok (.dup, 1) := by decide +kernel
theorem d_G_takeSign_37 : decode b_G_takeSign 37 = .ok (.getfield 41, 3) := by decide +kernel
theorem d_G_takeSign_40 : decode b_G_takeSign 40 = .ok (.iconst 1, 1) := by decide +kernel
theorem d_G_takeSign_41 : decode b_G_takeSign 41 = .ok (.isub, 1) := by decide +kernel
theorem d_G_takeSign_42 : decode b_G_takeSign 42 = .ok (.putfield 41, 3) := by decide +kernel
theorem d_G_takeSign_45 : decode b_G_takeSign 45 = .ok (.iconst 1, 1) := by decide +kernel
theorem d_G_takeSign_46 : decode b_G_takeSign 46 = .ok (.ireturn, 1) := by decide +kernel
theorem d_G_takeString_0 : decode b_G_takeString 0 = .ok (.aload_n 0, 1) := by decide +kernel
theorem d_G_takeString_1 : decode b_G_takeString 1 = .ok (.getfield 81, 3) := by decide +kernel
theorem d_G_takeString_4 : decode b_G_takeString 4 = .ok (.iconst 4, 1) := by decide +kernel
theorem d_G_takeString_5 : decode b_G_takeString 5 = .ok (.if_icmp .ne 12, 3) := by decide +kernel
theorem d_G_takeString_8 : decode b_G_takeString 8 = .ok (.aload_n 0, 1) := by decide +kernel
theorem d_G_takeString_9 : decode b_G_takeString 9 = .ok (.getfield 35, 3) := by decide +kernel
theorem d_G_takeString_12 : decode b_G_takeString 12 = .ok (.bipush 60, 2) := by decide +kernel
theorem d_G_takeString_14 : decode b_G_takeString 14 = .ok (.if_icmp .lt 5, 3) := by decide +kernel
theorem d_G_takeString_17 : decode b_G_takeString 17 = .ok (.iconst 0, 1) := by decide +kernel
theorem d_G_takeString_18 : decode b_G_takeString 18 = .ok (.ireturn, 1) := by decide +kernel
theorem d_G_takeString_19 : decode b_G_takeString 19 = .ok (.aload_n 0, 1) := by decide +kernel
theorem d_G_takeString_20 : decode b_G_takeString 20 = .ok (.dup, 1) := by decide +kernel
theorem d_G_takeString_21 : decode b_G_takeString 21 = .ok (.getfield 35, 3) := by decide +kernel
theorem d_G_takeString_24 : decode b_G_takeString 24 = .ok (.iconst 1, 1) := by decide +kernel
theorem d_G_takeString_25 : decode b_G_takeString 25 = .ok (.iadd, 1) := by decide +kernel
theorem d_G_takeString_26 : decode b_G_takeString 26 = .ok (.putfield 35, 3) := by decide +kernel
theorem d_G_takeString_29 : decode b_G_takeString 29 = .ok (.aload_n 0, 1) := by decide +kernel
theorem d_G_takeString_30 : decode b_G_takeString 30 = .ok (.getfield 91, 3) := by decide +kernel
theorem d_G_takeString_33 : decode b_G_takeString 33 = .ok (.iload_n 1, 1) := by decide +kernel
theorem d_G_takeString_34 : decode b_G_takeString 34 = .ok (.iand, 1) := by decide +kernel
theorem d_G_takeString_35 : decode b_G_takeString 35 = .ok (.ifCond .ne 5, 3) := by decide +kernel
theorem d_G_takeString_38 : decode b_G_takeString 38 = .ok (.iconst 0, 1) := by decide +kernel
theorem d_G_takeString_39 : decode b_G_takeString 39 = .ok (.ireturn, 1) := by decide +kernel
theorem d_G_takeString_40 : decode b_G_takeString 40 = .ok (.iload_n 1, 1) := by decide +kernel
theorem d_G_takeString_41 : decode b_G_takeString 41 = .ok (.sipush 255, 3) := by decide +kernel
theorem d_G_takeString_44 : decode b_G_takeString 44 = .ok (.if_icmp .ne 20, 3) := by decide +kernel
theorem d_G_takeString_47 : decode b_G_takeString 47 = .ok (.aload_n 0, 1) := by decide +kernel
theorem d_G_takeString_48 : decode b_G_takeString 48 = .ok (.dup, 1) := by decide +kernel
theorem d_G_takeString_49 : decode b_G_takeString 49 = .ok (.getfield 38, 3) := by decide +kernel
theorem d_G_takeString_52 : decode b_G_takeString 52 = .ok (.aload_n 0, 1) := by decide +kernel
theorem d_G_takeString_53 : decode b_G_takeString 53 = .ok (.getfield 91, 3) := by decide +kernel
theorem d_G_takeString_56 : decode b_G_takeString 56 = .ok (.sipush 255, 3) := by decide +kernel
theorem d_G_takeString_59 : decode b_G_takeString 59 = .ok (.iand, 1) := by decide +kernel
theorem d_G_takeString_60 : decode b_G_takeString 60 = .ok (.ior, 1) := by decide +kernel
theorem d_G_takeString_61 : decode b_G_takeString 61 = .ok (.putfield 38, 3) := by decide +kernel
theorem d_G_takeString_64 : decode b_G_takeString 64 = .ok (.aload_n 0, 1) := by decide +kernel
theorem d_G_takeString_65 : decode b_G_takeString 65 = .ok (.invokevirtual 56, 3) := by decide +kernel
theorem d_G_takeString_68 : decode b_G_takeString 68 = .ok (.iconst 1, 1) := by decide +kernel
theorem d_G_takeString_69 : decode b_G_takeString 69 = .ok (.ireturn, 1) := by decide +kernel
theorem d_G_takeStrings_0 : decode b_G_takeStrings 0 = .ok (.aload_n 0, 1) := by decide +kernel
theorem d_G_takeStrings_1 : decode b_G_takeStrings 1 = .ok (.getfield 81, 3) := by decide +kernel
theorem d_G_takeStrings_4 : decode b_G_takeStrings 4 = .ok (.bipush 91, 2) := by decide +kernel
theorem d_G_takeStrings_6 : decode b_G_takeStrings 6 = .ok (.if_icmp .eq 9, 3) := by decide +kernel
theorem d_G_takeStrings_9 : decode b_G_takeStrings 9 = .ok (.aload_n 0, 1) := by decide +kernel
theorem d_G_takeStrings_10 : decode b_G_takeStrings 10 = .ok (.iload_n 1, 1) := by decide +kernel
theorem d_G_takeStrings_11 : decode b_G_takeStrings 11 = .ok (.invokevirtual 139, 3) := by decide +kernel
theorem d_G_takeStrings_14 : decode b_G_takeStrings 14 = .ok (.ireturn, 1) := by decide +kernel
theorem d_G_takeStrings_15 : decode b_G_takeStrings 15 = .ok (.aload_n 0, 1) := by decide +kernel
theorem d_G_takeStrings_16 : decode b_G_takeStrings 16 = .ok (.invokevirtual 56, 3) := by decide +kernel
theorem d_G_takeStrings_19 : decode b_G_takeStrings 19 = .ok (.iconst 0, 1) := by decide +kernel
theorem d_G_takeStrings_20 : decode b_G_takeStrings 20 = .ok (.istore_n 2, 1) := by decide +kernel
theorem d_G_takeStrings_21 : decode b_G_takeStrings 21 = .ok (.iload_n 2, 1) := by decide +kernel
theorem d_G_takeStrings_22 : decode b_G_takeStrings 22 = .ok (.bipush 10, 2) := by decide +kernel
theorem d_G_takeStrings_24 : decode b_G_takeStrings 24 = .ok (.if_icmp .ge 39, 3) := by decide +kernel
theorem d_G_takeStrings_27 : decode b_G_takeStrings 27 = .ok (.aload_n 0, 1) := by decide +kernel
theorem d_G_takeStrings_28 : decode b_G_takeStrings 28 = .ok (.iload_n 1, 1) := by decide +kernel
theorem d_G_takeStrings_29 : decode b_G_takeStrings 29 = .ok (.invokevirtual 139, 3) := by decide +kernel
theorem d_G_takeStrings_32 : decode b_G_takeStrings 32 = .ok (.ifCond .ne 5, 3) := by decide +kernel
theorem d_G_takeStrings_35 : decode b_G_takeStrings 35 = .ok (.iconst 0, 1) := by decide +kernel
theorem d_G_takeStrings_36 : decode b_G_takeStrings 36 = .ok (.ireturn, 1) := by decide +kernel
theorem d_G_takeStrings_37 : decode b_G_takeStrings 37 = .ok (.aload_n 0, 1) := by decide +kernel
theorem d_G_takeStrings_38 : decode b_G_takeStrings 38 = .ok (.getfield 81, 3) := by decide +kernel
theorem d_G_takeStrings_41 : decode b_G_takeStrings 41 = .ok (.bipush 44, 2) := by decide +kernel
theorem d_G_takeStrings_43 : decode b_G_takeStrings 43 = .ok (.if_icmp .eq 10, 3) := by decide +kernel
theorem d_G_takeStrings_46 : decode b_G_takeStrings 46 = .ok (.aload_n 0, 1) := by decide +kernel
theorem d_G_takeStrings_47 : decode b_G_takeStrings 47 = .ok (.bipush 93, 2) := by decide +kernel
theorem d_G_takeStrings_49 : decode b_G_takeStrings 49 = .ok (.invokevirtual 135, 3) := by decide +kernel
theorem d_G_takeStrings_52 : decode b_G_takeStrings 52 = .ok (.ireturn, 1) := by decide +kernel
theorem d_G_takeStrings_53 : decode b_G_takeStrings 53 = .ok (.aload_n 0, 1) := by decide +kernel
theorem d_G_takeStrings_54 : decode b_G_takeStrings 54 = .ok (.invokevirtual 56, 3) := by decide +kernel
theorem d_G_takeStrings_57 : decode b_G_takeStrings 57 = .ok (.iinc 2 1, 3) := by decide +kernel
theorem d_G_takeStrings_60 : decode b_G_takeStrings 60 = .ok (.goto (-39), 3) := by decide +kernel
theorem d_G_takeStrings_63 : decode b_G_takeStrings 63 = .ok (.iconst 0, 1) := by decide +kernel
theorem d_G_takeStrings_64 : decode b_G_takeStrings 64 = .ok (.ireturn, 1) := by decide +kernel
theorem d_G_takeTags_0 : decode b_G_takeTags 0 = .ok (.aload_n 0, 1) := by decide +kernel
theorem d_G_takeTags_1 : decode b_G_takeTags 1 = .ok (.getfield 81, 3) := by decide +kernel
theorem d_G_takeTags_4 : decode b_G_takeTags 4 = .ok (.iconst 2, 1) := by decide +kernel
theorem d_G_takeTags_5 : decode b_G_takeTags 5 = .ok (.if_icmp .eq 5, 3) := by decide +kernel
theorem d_G_takeTags_8 : decode b_G_takeTags 8 = .ok (.iconst 1, 1) := by decide +kernel
theorem d_G_takeTags_9 : decode b_G_takeTags 9 = .ok (.ireturn, 1) := by decide +kernel
theorem d_G_takeTags_10 : decode b_G_takeTags 10 = .ok (.aload_n 0, 1) := by decide +kernel
theorem d_G_takeTags_11 : decode b_G_takeTags 11 = .ok (.getfield 28, 3) := by decide +kernel
theorem d_G_takeTags_14 : decode b_G_takeTags 14 = .ok (.getfield 161, 3) := by decide +kernel
theorem d_G_takeTags_17 : decode b_G_takeTags 17 = .ok (.iconst 3, 1) := by decide +kernel
theorem d_G_takeTags_18 : decode b_G_takeTags 18 = .ok (.if_icmp .ne 32, 3) := by decide +kernel
theorem d_G_takeTags_21 : decode b_G_takeTags 21 = .ok (.aload_n 0, 1) := by decide +kernel
theorem d_G_takeTags_22 : decode b_G_takeTags 22 = .ok (.getfield 28, 3) := by decide +kernel
theorem d_G_takeTags_25 : decode b_G_takeTags 25 = .ok (.getfield 158, 3) := by decide +kernel
theorem d_G_takeTags_28 : decode b_G_takeTags 28 = .ok (.aload_n 0, 1) := by decide +kernel
theorem d_G_takeTags_29 : decode b_G_takeTags 29 = .ok (.getfield 47, 3) := by decide +kernel
theorem d_G_takeTags_32 : decode b_G_takeTags 32 = .ok (.iand, 1) := by decide +kernel
theorem d_G_takeTags_33 : decode b_G_takeTags 33 = .ok (.ifCond .eq 17, 3) := by decide +kernel
theorem d_G_takeTags_36 : decode b_G_takeTags 36 = .ok (.aload_n 0, 1) := by decide +kernel
theorem d_G_takeTags_37 : decode b_G_takeTags 37 = .ok (.aload_n 0, 1) := by decide +kernel
theorem d_G_takeTags_38 : decode b_G_takeTags 38 = .ok (.getfield 28, 3) := by decide +kernel
theorem d_G_takeTags_41 : decode b_G_takeTags 41 = .ok (.getfield 155, 3) := by decide +kernel
theorem d_G_takeTags_44 : decode b_G_takeTags 44 = .ok (.invokevirtual 142, 3) := by decide +kernel
theorem d_G_takeTags_47 : decode b_G_takeTags 47 = .ok (.ifCond .eq 5, 3) := by decide +kernel
theorem d_G_takeTags_50 : decode b_G_takeTags 50 = .ok (.iconst 0, 1) := by decide +kernel
theorem d_G_takeTags_51 : decode b_G_takeTags 51 = .ok (.ireturn, 1) := by decide +kernel
theorem d_G_takeTags_52 : decode b_G_takeTags 52 = .ok (.aload_n 0, 1) := by decide +kernel
theorem d_G_takeTags_53 : decode b_G_takeTags 53 = .ok (.dup, 1) := by decide +kernel
theorem d_G_takeTags_54 : decode b_G_takeTags 54 = .ok (.getfield 47, 3) := by decide +kernel
theorem d_G_takeTags_57 : decode b_G_takeTags 57 = .ok (.aload_n 0, 1) := by decide +kernel
theorem d_G_takeTags_58 : decode b_G_takeTags 58 = .ok (.getfield 28, 3) := by decide +kernel
theorem d_G_takeTags_61 : decode b_G_takeTags 61 = .ok (.getfield 158, 3) := by decide +kernel
theorem d_G_takeTags_64 : decode b_G_takeTags 64 = .ok (.iconst (-1), 1) := by decide +kernel
theorem d_G_takeTags_65 : decode b_G_takeTags 65 = .ok (.ixor, 1) := by decide +kernel
theorem d_G_takeTags_66 : decode b_G_takeTags 66 = .ok (.iand, 1) := by decide +kernel
theorem d_G_takeTags_67 : decode b_G_takeTags 67 = .ok (.putfield 47, 3) := by decide +kernel
theorem d_G_takeTags_70 : decode b_G_takeTags 70 = .ok (.aload_n 0, 1) := by decide +kernel
theorem d_G_takeTags_71 : decode b_G_takeTags 71 = .ok (.ldc 176, 2) := by decide +kernel
theorem d_G_takeTags_73 : decode b_G_takeTags 73 = .ok (.invokevirtual 61, 3) := by decide +kernel
theorem d_G_takeTags_76 : decode b_G_takeTags 76 = .ok (.aload_n 0, 1) := by decide +kernel
theorem d_G_takeTags_77 : decode b_G_takeTags 77 = .ok (.aload_n 0, 1) := by decide +kernel
theorem d_G_takeTags_78 : decode b_G_takeTags 78 = .ok (.getfield 28, 3) := by decide +kernel
theorem d_G_takeTags_81 : decode b_G_takeTags 81 = .ok (.invokevirtual 106, 3) := by decide +kernel
theorem d_G_takeTags_84 : decode b_G_takeTags 84 = .ok (.ireturn, 1) := by decide +kernel
theorem d_G_takeTest_0 : decode b_G_takeTest 0 = .ok (.aload_n 0, 1) := by decide +kernel
theorem d_G_takeTest_1 : decode b_G_takeTest 1 = .ok (.getfield 25, 3) := by decide +kernel
theorem d_G_takeTest_4 : decode b_G_takeTest 4 = .ok (.getfield 161, 3) := by decide +kernel
theorem d_G_takeTest_7 : decode b_G_takeTest 7 = .ok (.iconst 2, 1) := by decide +kernel
theorem d_G_takeTest_8 : decode b_G_takeTest 8 = .ok (.if_icmp .ne 12, 3) := by decide +kernel
theorem d_G_takeTest_11 : decode b_G_takeTest 11 = .ok (.aload_n 0, 1) := by decide +kernel
theorem d_G_takeTest_12 : decode b_G_takeTest 12 = .ok (.getfield 44, 3) := by decide +kernel
theorem d_G_takeTest_15 : decode b_G_takeTest 15 = .ok (.bipush 8, 2) := by decide +kernel
theorem d_G_takeTest_17 : decode b_G_takeTest 17 = .ok (.if_icmp .lt 5, 3) := by decide +kernel
theorem d_G_takeTest_20 : decode b_G_takeTest 20 = .ok (.iconst 0, 1) := by decide +kernel
theorem d_G_takeTest_21 : decode b_G_takeTest 21 = .ok (.ireturn, 1) := by decide +kernel
theorem d_G_takeTest_22 : decode b_G_takeTest 22 = .ok (.aload_n 0, 1) := by decide +kernel
theorem d_G_takeTest_23 : decode b_G_takeTest 23 = .ok (.dup, 1) := by decide +kernel
theorem d_G_takeTest_24 : decode b_G_takeTest 24 = .ok (.getfield 44, 3) := by decide +kernel
theorem d_G_takeTest_27 : decode b_G_takeTest 27 = .ok (.iconst 1, 1) := by decide +kernel
theorem d_G_takeTest_28 : decode b_G_takeTest 28 = .ok (.iadd, 1) := by decide +kernel
theorem d_G_takeTest_29 : decode b_G_takeTest 29 = .ok (.putfield 44, 3) := by decide +kernel
theorem d_G_takeTest_32 : decode b_G_takeTest 32 = .ok (.aload_n 0, 1) := by decide +kernel
theorem d_G_takeTest_33 : decode b_G_takeTest 33 = .ok (.ldc 172, 2) := by decide +kernel
theorem d_G_takeTest_35 : decode b_G_takeTest 35 = .ok (.invokevirtual 61, 3) := by decide +kernel
theorem d_G_takeTest_38 : decode b_G_takeTest 38 = .ok (.aload_n 0, 1) := by decide +kernel
theorem d_G_takeTest_39 : decode b_G_takeTest 39 = .ok (.invokevirtual 169, 3) := by decide +kernel
theorem d_G_takeTest_42 : decode b_G_takeTest 42 = .ok (.ireturn, 1) := by decide +kernel
theorem d_L_law_0 : decode b_L_law 0 = .ok (.new 7, 3) := by decide +kernel
theorem d_L_law_3 : decode b_L_law 3 = .ok (.dup, 1) := by decide +kernel
theorem d_L_law_4 : decode b_L_law 4 = .ok (.invokespecial 9, 3) := by decide +kernel
theorem d_L_law_7 : decode b_L_law 7 = .ok (.astore_n 1, 1) := by decide +kernel
theorem d_L_law_8 : decode b_L_law 8 = .ok (.new 10, 3) := by decide +kernel
theorem d_L_law_11 : decode b_L_law 11 = .ok (.dup, 1) := by decide +kernel
theorem d_L_law_12 : decode b_L_law 12 = .ok (.invokespecial 12, 3) := by decide +kernel
theorem d_L_law_15 : decode b_L_law 15 = .ok (.astore_n 2, 1) := by decide +kernel
theorem d_L_law_16 : decode b_L_law 16 = .ok (.iconst 0, 1) := by decide +kernel
theorem d_L_law_17 : decode b_L_law 17 = .ok (.istore_n 3, 1) := by decide +kernel
theorem d_L_law_18 : decode b_L_law 18 = .ok (.iload_n 3, 1) := by decide +kernel
theorem d_L_law_19 : decode b_L_law 19 = .ok (.aload_n 0, 1) := by decide +kernel
theorem d_L_law_20 : decode b_L_law 20 = .ok (.arraylength, 1) := by decide +kernel
theorem d_L_law_21 : decode b_L_law 21 = .ok (.iconst 4, 1) := by decide +kernel
theorem d_L_law_22 : decode b_L_law 22 = .ok (.isub, 1) := by decide +kernel
theorem d_L_law_23 : decode b_L_law 23 = .ok (.if_icmp .gt 155, 3) := by decide +kernel
theorem d_L_law_26 : decode b_L_law 26 = .ok (.aload_n 0, 1) := by decide +kernel
theorem d_L_law_27 : decode b_L_law 27 = .ok (.iload_n 3, 1) := by decide +kernel
theorem d_L_law_28 : decode b_L_law 28 = .ok (.iaload, 1) := by decide +kernel
theorem d_L_law_29 : decode b_L_law 29 = .ok (.iconst 3, 1) := by decide +kernel
theorem d_L_law_30 : decode b_L_law 30 = .ok (.iand, 1) := by decide +kernel
theorem d_L_law_31 : decode b_L_law 31 = .ok (.tableswitch 141 0 3 #[29, 92, 105, 118], 29) := by decide +kernel
theorem d_L_law_60 : decode b_L_law 60 = .ok (.aload_n 1, 1) := by decide +kernel
theorem d_L_law_61 : decode b_L_law 61 = .ok (.aload_n 0, 1) := by decide +kernel
theorem d_L_law_62 : decode b_L_law 62 = .ok (.iload_n 3, 1) := by decide +kernel
theorem d_L_law_63 : decode b_L_law 63 = .ok (.iconst 1, 1) := by decide +kernel
theorem d_L_law_64 : decode b_L_law 64 = .ok (.iadd, 1) := by decide +kernel
theorem d_L_law_65 : decode b_L_law 65 = .ok (.iaload, 1) := by decide +kernel
theorem d_L_law_66 : decode b_L_law 66 = .ok (.i2l, 1) := by decide +kernel
theorem d_L_law_67 : decode b_L_law 67 = .ok (.bipush 32, 2) := by decide +kernel
theorem d_L_law_69 : decode b_L_law 69 = .ok (.lshl, 1) := by decide +kernel
theorem d_L_law_70 : decode b_L_law 70 = .ok (.aload_n 0, 1) := by decide +kernel
theorem d_L_law_71 : decode b_L_law 71 = .ok (.iload_n 3, 1) := by decide +kernel
theorem d_L_law_72 : decode b_L_law 72 = .ok (.iconst 2, 1) := by decide +kernel
theorem d_L_law_73 : decode b_L_law 73 = .ok (.iadd, 1) := by decide +kernel
theorem d_L_law_74 : decode b_L_law 74 = .ok (.iaload, 1) := by decide +kernel
theorem d_L_law_75 : decode b_L_law 75 = .ok (.i2l, 1) := by decide +kernel
theorem d_L_law_76 : decode b_L_law 76 = .ok (.ldc2_w 13, 3) := by decide +kernel
theorem d_L_law_79 : decode b_L_law 79 = .ok (.land, 1) := by decide +kernel
theorem d_L_law_80 : decode b_L_law 80 = .ok (.lor, 1) := by decide +kernel
theorem d_L_law_81 : decode b_L_law 81 = .ok (.aload_n 0, 1) := by decide +kernel
theorem d_L_law_82 : decode b_L_law 82 = .ok (.iload_n 3, 1) := by decide +kernel
theorem d_L_law_83 : decode b_L_law 83 = .ok (.iconst 3, 1) := by decide +kernel
theorem d_L_law_84 : decode b_L_law 84 = .ok (.iadd, 1) := by decide +kernel
theorem d_L_law_85 : decode b_L_law 85 = .ok (.iaload, 1) := by decide +kernel
theorem d_L_law_86 : decode b_L_law 86 = .ok (.invokevirtual 15, 3) := by decide +kernel
theorem d_L_law_89 : decode b_L_law 89 = .ok (.aload_n 2, 1) := by decide +kernel
theorem d_L_law_90 : decode b_L_law 90 = .ok (.aload_n 0, 1) := by decide +kernel
theorem d_L_law_91 : decode b_L_law 91 = .ok (.iload_n 3, 1) := by decide +kernel
theorem d_L_law_92 : decode b_L_law 92 = .ok (.iconst 1, 1) := by decide +kernel
theorem d_L_law_93 : decode b_L_law 93 = .ok (.iadd, 1) := by decide +kernel
theorem d_L_law_94 : decode b_L_law 94 = .ok (.iaload, 1) := by decide +kernel
theorem d_L_law_95 : decode b_L_law 95 = .ok (.i2l, 1) := by decide +kernel
theorem d_L_law_96 : decode b_L_law 96 = .ok (.bipush 32, 2) := by decide +kernel
theorem d_L_law_98 : decode b_L_law 98 = .ok (.lshl, 1) := by decide +kernel
theorem d_L_law_99 : decode b_L_law 99 = .ok (.aload_n 0, 1) := by decide +kernel
theorem d_L_law_100 : decode b_L_law 100 = .ok (.iload_n 3, 1) := by decide +kernel
theorem d_L_law_101 : decode b_L_law 101 = .ok (.iconst 2, 1) := by decide +kernel
theorem d_L_law_102 : decode b_L_law 102 = .ok (.iadd, 1) := by decide +kernel
theorem d_L_law_103 : decode b_L_law 103 = .ok (.iaload, 1) := by decide +kernel
theorem d_L_law_104 : decode b_L_law 104 = .ok (.i2l, 1) := by decide +kernel
theorem d_L_law_105 : decode b_L_law 105 = .ok (.ldc2_w 13, 3) := by decide +kernel
theorem d_L_law_108 : decode b_L_law 108 = .ok (.land, 1) := by decide +kernel
theorem d_L_law_109 : decode b_L_law 109 = .ok (.lor, 1) := by decide +kernel
theorem d_L_law_110 : decode b_L_law 110 = .ok (.aload_n 0, 1) := by decide +kernel
theorem d_L_law_111 : decode b_L_law 111 = .ok (.iload_n 3, 1) := by decide +kernel
theorem d_L_law_112 : decode b_L_law 112 = .ok (.iconst 3, 1) := by decide +kernel
theorem d_L_law_113 : decode b_L_law 113 = .ok (.iadd, 1) := by decide +kernel
theorem d_L_law_114 : decode b_L_law 114 = .ok (.iaload, 1) := by decide +kernel
theorem d_L_law_115 : decode b_L_law 115 = .ok (.invokevirtual 19, 3) := by decide +kernel
theorem d_L_law_118 : decode b_L_law 118 = .ok (.if_icmp .eq 54, 3) := by decide +kernel
theorem d_L_law_121 : decode b_L_law 121 = .ok (.iconst 0, 1) := by decide +kernel
theorem d_L_law_122 : decode b_L_law 122 = .ok (.ireturn, 1) := by decide +kernel
theorem d_L_law_123 : decode b_L_law 123 = .ok (.aload_n 1, 1) := by decide +kernel
theorem d_L_law_124 : decode b_L_law 124 = .ok (.invokevirtual 20, 3) := by decide +kernel
theorem d_L_law_127 : decode b_L_law 127 = .ok (.pop, 1) := by decide +kernel
theorem d_L_law_128 : decode b_L_law 128 = .ok (.aload_n 2, 1) := by decide +kernel
theorem d_L_law_129 : decode b_L_law 129 = .ok (.invokevirtual 24, 3) := by decide +kernel
theorem d_L_law_132 : decode b_L_law 132 = .ok (.pop, 1) := by decide +kernel
theorem d_L_law_133 : decode b_L_law 133 = .ok (.goto 39, 3) := by decide +kernel
theorem d_L_law_136 : decode b_L_law 136 = .ok (.aload_n 1, 1) := by decide +kernel
theorem d_L_law_137 : decode b_L_law 137 = .ok (.invokevirtual 25, 3) := by decide +kernel
theorem d_L_law_140 : decode b_L_law 140 = .ok (.pop, 1) := by decide +kernel
theorem d_L_law_141 : decode b_L_law 141 = .ok (.aload_n 2, 1) := by decide +kernel
theorem d_L_law_142 : decode b_L_law 142 = .ok (.invokevirtual 28, 3) := by decide +kernel
theorem d_L_law_145 : decode b_L_law 145 = .ok (.pop, 1) := by decide +kernel
theorem d_L_law_146 : decode b_L_law 146 = .ok (.goto 26, 3) := by decide +kernel
theorem d_L_law_149 : decode b_L_law 149 = .ok (.aload_n 1, 1) := by decide +kernel
theorem d_L_law_150 : decode b_L_law 150 = .ok (.aload_n 0, 1) := by decide +kernel
theorem d_L_law_151 : decode b_L_law 151 = .ok (.iload_n 3, 1) := by decide +kernel
theorem d_L_law_152 : decode b_L_law 152 = .ok (.iconst 1, 1) := by decide +kernel
theorem d_L_law_153 : decode b_L_law 153 = .ok (.iadd, 1) := by decide +kernel
theorem d_L_law_154 : decode b_L_law 154 = .ok (.iaload, 1) := by decide +kernel
theorem d_L_law_155 : decode b_L_law 155 = .ok (.invokevirtual 29, 3) := by decide +kernel
theorem d_L_law_158 : decode b_L_law 158 = .ok (.pop, 1) := by decide +kernel
theorem d_L_law_159 : decode b_L_law 159 = .ok (.aload_n 2, 1) := by decide +kernel
theorem d_L_law_160 : decode b_L_law 160 = .ok (.aload_n 0, 1) := by decide +kernel
theorem d_L_law_161 : decode b_L_law 161 = .ok (.iload_n 3, 1) := by decide +kernel
theorem d_L_law_162 : decode b_L_law 162 = .ok (.iconst 1, 1) := by decide +kernel
theorem d_L_law_163 : decode b_L_law 163 = .ok (.iadd, 1) := by decide +kernel
theorem d_L_law_164 : decode b_L_law 164 = .ok (.iaload, 1) := by decide +kernel
theorem d_L_law_165 : decode b_L_law 165 = .ok (.invokevirtual 33, 3) := by decide +kernel
theorem d_L_law_168 : decode b_L_law 168 = .ok (.pop, 1) := by decide +kernel
theorem d_L_law_169 : decode b_L_law 169 = .ok (.goto 3, 3) := by decide +kernel
theorem d_L_law_172 : decode b_L_law 172 = .ok (.iinc 3 4, 3) := by decide +kernel
theorem d_L_law_175 : decode b_L_law 175 = .ok (.goto (-157), 3) := by decide +kernel
theorem d_L_law_178 : decode b_L_law 178 = .ok (.iconst 1, 1) := by decide +kernel
theorem d_L_law_179 : decode b_L_law 179 = .ok (.ireturn, 1) := by decide +kernel
theorem d_Q_add_0 : decode b_Q_add 0 = .ok (.aload_n 0, 1) := by decide +kernel
theorem d_Q_add_1 : decode b_Q_add 1 = .ok (.getfield 15, 3) := by decide +kernel
theorem d_Q_add_4 : decode b_Q_add 4 = .ok (.aload_n 0, 1) := by decide +kernel
theorem d_Q_add_5 : decode b_Q_add 5 = .ok (.getfield 9, 3) := by decide +kernel
theorem d_Q_add_8 : decode b_Q_add 8 = .ok (.arraylength, 1) := by decide +kernel
theorem d_Q_add_9 : decode b_Q_add 9 = .ok (.if_icmp .lt 5, 3) := by decide +kernel
theorem d_Q_add_12 : decode b_Q_add 12 = .ok (.iconst 0, 1) := by decide +kernel
theorem d_Q_add_13 : decode b_Q_add 13 = .ok (.ireturn, 1) := by decide +kernel
theorem d_Q_add_14 : decode b_Q_add 14 = .ok (.aload_n 0, 1) := by decide +kernel
theorem d_Q_add_15 : decode b_Q_add 15 = .ok (.getfield 9, 3) := by decide +kernel
theorem d_Q_add_18 : decode b_Q_add 18 = .ok (.aload_n 0, 1) := by decide +kernel
theorem d_Q_add_19 : decode b_Q_add 19 = .ok (.getfield 15, 3) := by decide +kernel
theorem d_Q_add_22 : decode b_Q_add 22 = .ok (.iload_n 1, 1) := by decide +kernel
theorem d_Q_add_23 : decode b_Q_add 23 = .ok (.i2b, 1) := by decide +kernel
theorem d_Q_add_24 : decode b_Q_add 24 = .ok (.bastore, 1) := by decide +kernel
theorem d_Q_add_25 : decode b_Q_add 25 = .ok (.aload_n 0, 1) := by decide +kernel
theorem d_Q_add_26 : decode b_Q_add 26 = .ok (.dup, 1) := by decide +kernel
theorem d_Q_add_27 : decode b_Q_add 27 = .ok (.getfield 15, 3) := by decide +kernel
theorem d_Q_add_30 : decode b_Q_add 30 = .ok (.iconst 1, 1) := by decide +kernel
theorem d_Q_add_31 : decode b_Q_add 31 = .ok (.iadd, 1) := by decide +kernel
theorem d_Q_add_32 : decode b_Q_add 32 = .ok (.putfield 15, 3) := by decide +kernel
theorem d_Q_add_35 : decode b_Q_add 35 = .ok (.iconst 1, 1) := by decide +kernel
theorem d_Q_add_36 : decode b_Q_add 36 = .ok (.ireturn, 1) := by decide +kernel
theorem d_Q_empty_0 : decode b_Q_empty 0 = .ok (.aload_n 0, 1) := by decide +kernel
theorem d_Q_empty_1 : decode b_Q_empty 1 = .ok (.iconst 0, 1) := by decide +kernel
theorem d_Q_empty_2 : decode b_Q_empty 2 = .ok (.putfield 15, 3) := by decide +kernel
theorem d_Q_empty_5 : decode b_Q_empty 5 = .ok (.return_, 1) := by decide +kernel
theorem d_Q_init_0 : decode b_Q_init 0 = .ok (.aload_n 0, 1) := by decide +kernel
theorem d_Q_init_1 : decode b_Q_init 1 = .ok (.invokespecial 3, 3) := by decide +kernel
theorem d_Q_init_4 : decode b_Q_init 4 = .ok (.aload_n 0, 1) := by decide +kernel
theorem d_Q_init_5 : decode b_Q_init 5 = .ok (.sipush 200, 3) := by decide +kernel
theorem d_Q_init_8 : decode b_Q_init 8 = .ok (.newarray .byte, 2) := by decide +kernel
theorem d_Q_init_10 : decode b_Q_init 10 = .ok (.putfield 9, 3) := by decide +kernel
theorem d_Q_init_13 : decode b_Q_init 13 = .ok (.aload_n 0, 1) := by decide +kernel
theorem d_Q_init_14 : decode b_Q_init 14 = .ok (.iconst 0, 1) := by decide +kernel
theorem d_Q_init_15 : decode b_Q_init 15 = .ok (.putfield 15, 3) := by decide +kernel
theorem d_Q_init_18 : decode b_Q_init 18 = .ok (.return_, 1) := by decide +kernel
theorem d_Q_isAddress_0 : decode b_Q_isAddress 0 = .ok (.iconst 0, 1) := by decide +kernel
theorem d_Q_isAddress_1 : decode b_Q_isAddress 1 = .ok (.istore_n 1, 1) := by decide +kernel
theorem d_Q_isAddress_2 : decode b_Q_isAddress 2 = .ok (.iload_n 1, 1) := by decide +kernel
theorem d_Q_isAddress_3 : decode b_Q_isAddress 3 = .ok (.aload_n 0, 1) := by decide +kernel
theorem d_Q_isAddress_4 : decode b_Q_isAddress 4 = .ok (.getfield 15, 3) := by decide +kernel
theorem d_Q_isAddress_7 : decode b_Q_isAddress 7 = .ok (.if_icmp .ge 29, 3) := by decide +kernel
theorem d_Q_isAddress_10 : decode b_Q_isAddress 10 = .ok (.iload_n 1, 1) := by decide +kernel
theorem d_Q_isAddress_11 : decode b_Q_isAddress 11 = .ok (.aload_n 0, 1) := by decide +kernel
theorem d_Q_isAddress_12 : decode b_Q_isAddress 12 = .ok (.getfield 9, 3) := by decide +kernel
theorem d_Q_isAddress_15 : decode b_Q_isAddress 15 = .ok (.arraylength, 1) := by decide +kernel
theorem d_Q_isAddress_16 : decode b_Q_isAddress 16 = .ok (.if_icmp .ge 20, 3) := by decide +kernel
theorem d_Q_isAddress_19 : decode b_Q_isAddress 19 = .ok (.aload_n 0, 1) := by decide +kernel
theorem d_Q_isAddress_20 : decode b_Q_isAddress 20 = .ok (.getfield 9, 3) := by decide +kernel
theorem d_Q_isAddress_23 : decode b_Q_isAddress 23 = .ok (.iload_n 1, 1) := by decide +kernel
theorem d_Q_isAddress_24 : decode b_Q_isAddress 24 = .ok (.baload, 1) := by decide +kernel
theorem d_Q_isAddress_25 : decode b_Q_isAddress 25 = .ok (.bipush 64, 2) := by decide +kernel
theorem d_Q_isAddress_27 : decode b_Q_isAddress 27 = .ok (.if_icmp .eq 9, 3) := by decide +kernel
theorem d_Q_isAddress_30 : decode b_Q_isAddress 30 = .ok (.iinc 1 1, 3) := by decide +kernel
theorem d_Q_isAddress_33 : decode b_Q_isAddress 33 = .ok (.goto (-31), 3) := by decide +kernel
theorem d_Q_isAddress_36 : decode b_Q_isAddress 36 = .ok (.iload_n 1, 1) := by decide +kernel
theorem d_Q_isAddress_37 : decode b_Q_isAddress 37 = .ok (.aload_n 0, 1) := by decide +kernel
theorem d_Q_isAddress_38 : decode b_Q_isAddress 38 = .ok (.getfield 15, 3) := by decide +kernel
theorem d_Q_isAddress_41 : decode b_Q_isAddress 41 = .ok (.if_icmp .ge 38, 3) := by decide +kernel
theorem d_Q_isAddress_44 : decode b_Q_isAddress 44 = .ok (.aload_n 0, 1) := by decide +kernel
theorem d_Q_isAddress_45 : decode b_Q_isAddress 45 = .ok (.iconst 0, 1) := by decide +kernel
theorem d_Q_isAddress_46 : decode b_Q_isAddress 46 = .ok (.iload_n 1, 1) := by decide +kernel
theorem d_Q_isAddress_47 : decode b_Q_isAddress 47 = .ok (.bipush 40, 2) := by decide +kernel
theorem d_Q_isAddress_49 : decode b_Q_isAddress 49 = .ok (.ldc 43, 2) := by decide +kernel
theorem d_Q_isAddress_51 : decode b_Q_isAddress 51 = .ok (.invokevirtual 45, 3) := by decide +kernel
theorem d_Q_isAddress_54 : decode b_Q_isAddress 54 = .ok (.ifCond .eq 25, 3) := by decide +kernel
theorem d_Q_isAddress_57 : decode b_Q_isAddress 57 = .ok (.aload_n 0, 1) := by decide +kernel
theorem d_Q_isAddress_58 : decode b_Q_isAddress 58 = .ok (.iload_n 1, 1) := by decide +kernel
theorem d_Q_isAddress_59 : decode b_Q_isAddress 59 = .ok (.iconst 1, 1) := by decide +kernel
theorem d_Q_isAddress_60 : decode b_Q_isAddress 60 = .ok (.iadd, 1) := by decide +kernel
theorem d_Q_isAddress_61 : decode b_Q_isAddress 61 = .ok (.aload_n 0, 1) := by decide +kernel
theorem d_Q_isAddress_62 : decode b_Q_isAddress 62 = .ok (.getfield 15, 3) := by decide +kernel
theorem d_Q_isAddress_65 : decode b_Q_isAddress 65 = .ok (.bipush 60, 2) := by decide +kernel
theorem d_Q_isAddress_67 : decode b_Q_isAddress 67 = .ok (.ldc 49, 2) := by decide +kernel
theorem d_Q_isAddress_69 : decode b_Q_isAddress 69 = .ok (.invokevirtual 45, 3) := by decide +kernel
theorem d_Q_isAddress_72 : decode b_Q_isAddress 72 = .ok (.ifCond .eq 7, 3) := by decide +kernel
theorem d_Q_isAddress_75 : decode b_Q_isAddress 75 = .ok (.iconst 1, 1) := by decide +kernel
theorem d_Q_isAddress_76 : decode b_Q_isAddress 76 = .ok (.goto 4, 3) := by decide +kernel
theorem d_Q_isAddress_79 : decode b_Q_isAddress 79 = .ok (.iconst 0, 1) := by decide +kernel
theorem d_Q_isAddress_80 : decode b_Q_isAddress 80 = .ok (.ireturn, 1) := by decide +kernel
theorem d_Q_isDotted_0 : decode b_Q_isDotted 0 = .ok (.iload_n 1, 1) := by decide +kernel
theorem d_Q_isDotted_1 : decode b_Q_isDotted 1 = .ok (.ifCond .lt 26, 3) := by decide +kernel
theorem d_Q_isDotted_4 : decode b_Q_isDotted 4 = .ok (.iload_n 2, 1) := by decide +kernel
theorem d_Q_isDotted_5 : decode b_Q_isDotted 5 = .ok (.aload_n 0, 1) := by decide +kernel
theorem d_Q_isDotted_6 : decode b_Q_isDotted 6 = .ok (.getfield 9, 3) := by decide +kernel
theorem d_Q_isDotted_9 : decode b_Q_isDotted 9 = .ok (.arraylength, 1) := by decide +kernel
theorem d_Q_isDotted_10 : decode b_Q_isDotted 10 = .ok (.if_icmp .gt 17, 3) := by decide +kernel
theorem d_Q_isDotted_13 : decode b_Q_isDotted 13 = .ok (.iload_n 2, 1) := by decide +kernel
theorem d_Q_isDotted_14 : decode b_Q_isDotted 14 = .ok (.iload_n 1, 1) := by decide +kernel
theorem d_Q_isDotted_15 : decode b_Q_isDotted 15 = .ok (.isub, 1) := by decide +kernel
theorem d_Q_isDotted_16 : decode b_Q_isDotted 16 = .ok (.iconst 1, 1) := by decide +kernel
theorem d_Q_isDotted_17 : decode b_Q_isDotted 17 = .ok (.if_icmp .lt 10, 3) := by decide +kernel
theorem d_Q_isDotted_20 : decode b_Q_isDotted 20 = .ok (.iload_n 2, 1) := by decide +kernel
theorem d_Q_isDotted_21 : decode b_Q_isDotted 21 = .ok (.iload_n 1, 1) := by decide +kernel
theorem d_Q_isDotted_22 : decode b_Q_isDotted 22 = .ok (.isub, 1) := by decide +kernel
theorem d_Q_isDotted_23 : decode b_Q_isDotted 23 = .ok (.iload_n 3, 1) := by decide +kernel
theorem d_Q_isDotted_24 : decode b_Q_isDotted 24 = .ok (.if_icmp .le 5, 3) := by decide +kernel
theorem d_Q_isDotted_27 : decode b_Q_isDotted 27 = .ok (.iconst 0, 1) := by decide +kernel
theorem d_Q_isDotted_28 : decode b_Q_isDotted 28 = .ok (.ireturn, 1) := by decide +kernel
theorem d_Q_isDotted_29 : decode b_Q_isDotted 29 = .ok (.iconst 1, 1) := by decide +kernel
theorem d_Q_isDotted_30 : decode b_Q_isDotted 30 = .ok (.istore 5, 2) := by decide +kernel
theorem d_Q_isDotted_32 : decode b_Q_isDotted 32 = .ok (.iload_n 1, 1) := by decide +kernel
theorem d_Q_isDotted_33 : decode b_Q_isDotted 33 = .ok (.istore 6, 2) := by decide +kernel
theorem d_Q_isDotted_35 : decode b_Q_isDotted 35 = .ok (.iload 6, 2) := by decide +kernel
theorem d_Q_isDotted_37 : decode b_Q_isDotted 37 = .ok (.iload_n 2, 1) := by decide +kernel
theorem d_Q_isDotted_38 : decode b_Q_isDotted 38 = .ok (.if_icmp .ge 86, 3) := by decide +kernel
theorem d_Q_isDotted_41 : decode b_Q_isDotted 41 = .ok (.aload_n 0, 1) := by decide +kernel
theorem d_Q_isDotted_42 : decode b_Q_isDotted 42 = .ok (.getfield 9, 3) := by decide +kernel
theorem d_Q_isDotted_45 : decode b_Q_isDotted 45 = .ok (.iload 6, 2) := by decide +kernel
theorem d_Q_isDotted_47 : decode b_Q_isDotted 47 = .ok (.baload, 1) := by decide +kernel
theorem d_Q_isDotted_48 : decode b_Q_isDotted 48 = .ok (.sipush 255, 3) := by decide +kernel
theorem d_Q_isDotted_51 : decode b_Q_isDotted 51 = .ok (.iand, 1) := by decide +kernel
theorem d_Q_isDotted_52 : decode b_Q_isDotted 52 = .ok (.istore 7, 2) := by decide +kernel
theorem d_Q_isDotted_54 : decode b_Q_isDotted 54 = .ok (.iload 7, 2) := by decide +kernel
theorem d_Q_isDotted_56 : decode b_Q_isDotted 56 = .ok (.bipush 46, 2) := by decide +kernel
theorem d_Q_isDotted_58 : decode b_Q_isDotted 58 = .ok (.if_icmp .ne 7, 3) := by decide +kernel
theorem d_Q_isDotted_61 : decode b_Q_isDotted 61 = .ok (.iconst 1, 1) := by decide +kernel
theorem d_Q_isDotted_62 : decode b_Q_isDotted 62 = .ok (.goto 4, 3) := by decide +kernel
theorem d_Q_isDotted_65 : decode b_Q_isDotted 65 = .ok (.iconst 0, 1) := by decide +kernel
theorem d_Q_isDotted_66 : decode b_Q_isDotted 66 = .ok (.istore 8, 2) := by decide +kernel
theorem d_Q_isDotted_68 : decode b_Q_isDotted 68 = .ok (.iload 8, 2) := by decide +kernel
theorem d_Q_isDotted_70 : decode b_Q_isDotted 70 = .ok (.ifCond .eq 10, 3) := by decide +kernel
theorem d_Q_isDotted_73 : decode b_Q_isDotted 73 = .ok (.iload 5, 2) := by decide +kernel
theorem d_Q_isDotted_75 : decode b_Q_isDotted 75 = .ok (.ifCond .eq 5, 3) := by decide +kernel
theorem d_Q_isDotted_78 : decode b_Q_isDotted 78 = .ok (.iconst 0, 1) := by decide +kernel
theorem d_Q_isDotted_79 : decode b_Q_isDotted 79 = .ok (.ireturn, 1) := by decide +kernel
theorem d_Q_isDotted_80 : decode b_Q_isDotted 80 = .ok (.iload 8, 2) := by decide +kernel
theorem d_Q_isDotted_82 : decode b_Q_isDotted 82 = .ok (.ifCond .ne 32, 3) := by decide +kernel
theorem d_Q_isDotted_85 : decode b_Q_isDotted 85 = .ok (.iload 7, 2) := by decide +kernel
theorem d_Q_isDotted_87 : decode b_Q_isDotted 87 = .ok (.invokestatic 51, 3) := by decide +kernel
theorem d_Q_isDotted_90 : decode b_Q_isDotted 90 = .ok (.ifCond .ne 24, 3) := by decide +kernel
theorem d_Q_isDotted_93 : decode b_Q_isDotted 93 = .ok (.iload 7, 2) := by decide +kernel
theorem d_Q_isDotted_95 : decode b_Q_isDotted 95 = .ok (.invokestatic 55, 3) := by decide +kernel
theorem d_Q_isDotted_98 : decode b_Q_isDotted 98 = .ok (.ifCond .ne 16, 3) := by decide +kernel
theorem d_Q_isDotted_101 : decode b_Q_isDotted 101 = .ok (.aload 4, 2) := by decide +kernel
theorem d_Q_isDotted_103 : decode b_Q_isDotted 103 = .ok (.iload 7, 2) := by decide +kernel
theorem d_Q_isDotted_105 : decode b_Q_isDotted 105 = .ok (.i2c, 1) := by decide +kernel
theorem d_Q_isDotted_106 : decode b_Q_isDotted 106 = .ok (.invokevirtual 58, 3) := by decide +kernel
theorem d_Q_isDotted_109 : decode b_Q_isDotted 109 = .ok (.ifCond .ge 5, 3) := by decide +kernel
theorem d_Q_isDotted_112 : decode b_Q_isDotted 112 = .ok (.iconst 0, 1) := by decide +kernel
theorem d_Q_isDotted_113 : decode b_Q_isDotted 113 = .ok (.ireturn, 1) := by decide +kernel
theorem d_Q_isDotted_114 : decode b_Q_isDotted 114 = .ok (.iload 8, 2) := by decide +kernel
theorem d_Q_isDotted_116 : decode b_Q_isDotted 116 = .ok (.istore 5, 2) := by decide +kernel
theorem d_Q_isDotted_118 : decode b_Q_isDotted 118 = .ok (.iinc 6 1, 3) := by decide +kernel
theorem d_Q_isDotted_121 : decode b_Q_isDotted 121 = .ok (.goto (-86), 3) := by decide +kernel
theorem d_Q_isDotted_124 : decode b_Q_isDotted 124 = .ok (.iload 5, 2) := by decide +kernel
theorem d_Q_isDotted_126 : decode b_Q_isDotted 126 = .ok (.ifCond .ne 7, 3) := by decide +kernel
theorem d_Q_isDotted_129 : decode b_Q_isDotted 129 = .ok (.iconst 1, 1) := by decide +kernel
theorem d_Q_isDotted_130 : decode b_Q_isDotted 130 = .ok (.goto 4, 3) := by decide +kernel
theorem d_Q_isDotted_133 : decode b_Q_isDotted 133 = .ok (.iconst 0, 1) := by decide +kernel
theorem d_Q_isDotted_134 : decode b_Q_isDotted 134 = .ok (.ireturn, 1) := by decide +kernel
theorem d_Q_isMailbox_0 : decode b_Q_isMailbox 0 = .ok (.aload_n 0, 1) := by decide +kernel
theorem d_Q_isMailbox_1 : decode b_Q_isMailbox 1 = .ok (.getfield 15, 3) := by decide +kernel
theorem d_Q_isMailbox_4 : decode b_Q_isMailbox 4 = .ok (.iconst 1, 1) := by decide +kernel
theorem d_Q_isMailbox_5 : decode b_Q_isMailbox 5 = .ok (.if_icmp .lt 12, 3) := by decide +kernel
theorem d_Q_isMailbox_8 : decode b_Q_isMailbox 8 = .ok (.aload_n 0, 1) := by decide +kernel
theorem d_Q_isMailbox_9 : decode b_Q_isMailbox 9 = .ok (.getfield 15, 3) := by decide +kernel
theorem d_Q_isMailbox_12 : decode b_Q_isMailbox 12 = .ok (.bipush 20, 2) := by decide +kernel
theorem d_Q_isMailbox_14 : decode b_Q_isMailbox 14 = .ok (.if_icmp .le 5, 3) := by decide +kernel
theorem d_Q_isMailbox_17 : decode b_Q_isMailbox 17 = .ok (.iconst 0, 1) := by decide +kernel
theorem d_Q_isMailbox_18 : decode b_Q_isMailbox 18 = .ok (.ireturn, 1) := by decide +kernel
theorem d_Q_isMailbox_19 : decode b_Q_isMailbox 19 = .ok (.iconst 0, 1) := by decide +kernel
theorem d_Q_isMailbox_20 : decode b_Q_isMailbox 20 = .ok (.istore_n 1, 1) := by decide +kernel
theorem d_Q_isMailbox_21 : decode b_Q_isMailbox 21 = .ok (.iload_n 1, 1) := by decide +kernel
theorem d_Q_isMailbox_22 : decode b_Q_isMailbox 22 = .ok (.aload_n 0, 1) := by decide +kernel
theorem d_Q_isMailbox_23 : decode b_Q_isMailbox 23 = .ok (.getfield 15, 3) := by decide +kernel
theorem d_Q_isMailbox_26 : decode b_Q_isMailbox 26 = .ok (.if_icmp .ge 53, 3) := by decide +kernel
theorem d_Q_isMailbox_29 : decode b_Q_isMailbox 29 = .ok (.iload_n 1, 1) := by decide +kernel
theorem d_Q_isMailbox_30 : decode b_Q_isMailbox 30 = .ok (.aload_n 0, 1) := by decide +kernel
theorem d_Q_isMailbox_31 : decode b_Q_isMailbox 31 = .ok (.getfield 9, 3) := by decide +kernel
theorem d_Q_isMailbox_34 : decode b_Q_isMailbox 34 = .ok (.arraylength, 1) := by decide +kernel
theorem d_Q_isMailbox_35 : decode b_Q_isMailbox 35 = .ok (.if_icmp .ge 44, 3) := by decide +kernel
theorem d_Q_isMailbox_38 : decode b_Q_isMailbox 38 = .ok (.aload_n 0, 1) := by decide +kernel
theorem d_Q_isMailbox_39 : decode b_Q_isMailbox 39 = .ok (.getfield 9, 3) := by decide +kernel
theorem d_Q_isMailbox_42 : decode b_Q_isMailbox 42 = .ok (.iload_n 1, 1) := by decide +kernel
theorem d_Q_isMailbox_43 : decode b_Q_isMailbox 43 = .ok (.baload, 1) := by decide +kernel
theorem d_Q_isMailbox_44 : decode b_Q_isMailbox 44 = .ok (.bipush 32, 2) := by decide +kernel
theorem d_Q_isMailbox_46 : decode b_Q_isMailbox 46 = .ok (.if_icmp .lt 25, 3) := by decide +kernel
theorem d_Q_isMailbox_49 : decode b_Q_isMailbox 49 = .ok (.aload_n 0, 1) := by decide +kernel
theorem d_Q_isMailbox_50 : decode b_Q_isMailbox 50 = .ok (.getfield 9, 3) := by decide +kernel
theorem d_Q_isMailbox_53 : decode b_Q_isMailbox 53 = .ok (.iload_n 1, 1) := by decide +kernel
theorem d_Q_isMailbox_54 : decode b_Q_isMailbox 54 = .ok (.baload, 1) := by decide +kernel
theorem d_Q_isMailbox_55 : decode b_Q_isMailbox 55 = .ok (.bipush 126, 2) := by decide +kernel
theorem d_Q_isMailbox_57 : decode b_Q_isMailbox 57 = .ok (.if_icmp .gt 14, 3) := by decide +kernel
theorem d_Q_isMailbox_60 : decode b_Q_isMailbox 60 = .ok (.aload_n 0, 1) := by decide +kernel
theorem d_Q_isMailbox_61 : decode b_Q_isMailbox 61 = .ok (.getfield 9, 3) := by decide +kernel
theorem d_Q_isMailbox_64 : decode b_Q_isMailbox 64 = .ok (.iload_n 1, 1) := by decide +kernel
theorem d_Q_isMailbox_65 : decode b_Q_isMailbox 65 = .ok (.baload, 1) := by decide +kernel
theorem d_Q_isMailbox_66 : decode b_Q_isMailbox 66 = .ok (.bipush 34, 2) := by decide +kernel
theorem d_Q_isMailbox_68 : decode b_Q_isMailbox 68 = .ok (.if_icmp .ne 5, 3) := by decide +kernel
theorem d_Q_isMailbox_71 : decode b_Q_isMailbox 71 = .ok (.iconst 0, 1) := by decide +kernel
theorem d_Q_isMailbox_72 : decode b_Q_isMailbox 72 = .ok (.ireturn, 1) := by decide +kernel
theorem d_Q_isMailbox_73 : decode b_Q_isMailbox 73 = .ok (.iinc 1 1, 3) := by decide +kernel
theorem d_Q_isMailbox_76 : decode b_Q_isMailbox 76 = .ok (.goto (-55), 3) := by decide +kernel
theorem d_Q_isMailbox_79 : decode b_Q_isMailbox 79 = .ok (.iconst 1, 1) := by decide +kernel
theorem d_Q_isMailbox_80 : decode b_Q_isMailbox 80 = .ok (.ireturn, 1) := by decide +kernel
theorem d_Q_says_0 : decode b_Q_says 0 = .ok (.sipush 256, 3) := by decide +kernel
theorem d_Q_says_3 : decode b_Q_says 3 = .ok (.istore_n 1, 1) := by decide +kernel
theorem d_Q_says_4 : decode b_Q_says 4 = .ok (.aload_n 0, 1) := by decide +kernel
theorem d_Q_says_5 : decode b_Q_says 5 = .ok (.invokevirtual 19, 3) := by decide +kernel
theorem d_Q_says_8 : decode b_Q_says 8 = .ok (.ifCond .eq 9, 3) := by decide +kernel
theorem d_Q_says_11 : decode b_Q_says 11 = .ok (.iload_n 1, 1) := by decide +kernel
theorem d_Q_says_12 : decode b_Q_says 12 = .ok (.sipush 4096, 3) := by decide +kernel
theorem d_Q_says_15 : decode b_Q_says 15 = .ok (.ior, 1) := by decide +kernel
theorem d_Q_says_16 : decode b_Q_says 16 = .ok (.istore_n 1, 1) := by decide +kernel
theorem d_Q_says_17 : decode b_Q_says 17 = .ok (.aload_n 0, 1) := by decide +kernel
theorem d_Q_says_18 : decode b_Q_says 18 = .ok (.invokevirtual 23, 3) := by decide +kernel
theorem d_Q_says_21 : decode b_Q_says 21 = .ok (.ifCond .eq 9, 3) := by decide +kernel
theorem d_Q_says_24 : decode b_Q_says 24 = .ok (.iload_n 1, 1) := by decide +kernel
theorem d_Q_says_25 : decode b_Q_says 25 = .ok (.sipush 8192, 3) := by decide +kernel
theorem d_Q_says_28 : decode b_Q_says 28 = .ok (.ior, 1) := by decide +kernel
theorem d_Q_says_29 : decode b_Q_says 29 = .ok (.istore_n 1, 1) := by decide +kernel
theorem d_Q_says_30 : decode b_Q_says 30 = .ok (.iconst 0, 1) := by decide +kernel
theorem d_Q_says_31 : decode b_Q_says 31 = .ok (.istore_n 2, 1) := by decide +kernel
theorem d_Q_says_32 : decode b_Q_says 32 = .ok (.iload_n 2, 1) := by decide +kernel
theorem d_Q_says_33 : decode b_Q_says 33 = .ok (.getstatic 26, 3) := by decide +kernel
theorem d_Q_says_36 : decode b_Q_says 36 = .ok (.arraylength, 1) := by decide +kernel
theorem d_Q_says_37 : decode b_Q_says 37 = .ok (.if_icmp .ge 43, 3) := by decide +kernel
theorem d_Q_says_40 : decode b_Q_says 40 = .ok (.aload_n 0, 1) := by decide +kernel
theorem d_Q_says_41 : decode b_Q_says 41 = .ok (.getfield 9, 3) := by decide +kernel
theorem d_Q_says_44 : decode b_Q_says 44 = .ok (.iconst 0, 1) := by decide +kernel
theorem d_Q_says_45 : decode b_Q_says 45 = .ok (.aload_n 0, 1) := by decide +kernel
theorem d_Q_says_46 : decode b_Q_says 46 = .ok (.getfield 15, 3) := by decide +kernel
theorem d_Q_says_49 : decode b_Q_says 49 = .ok (.getstatic 26, 3) := by decide +kernel
theorem d_Q_says_52 : decode b_Q_says 52 = .ok (.iload_n 2, 1) := by decide +kernel
theorem d_Q_says_53 : decode b_Q_says 53 = .ok (.aaload, 1) := by decide +kernel
theorem d_Q_says_54 : decode b_Q_says 54 = .ok (.getfield 32, 3) := by decide +kernel
theorem d_Q_says_57 : decode b_Q_says 57 = .ok (.invokestatic 36, 3) := by decide +kernel
theorem d_Q_says_60 : decode b_Q_says 60 = .ok (.ifCond .eq 14, 3) := by decide +kernel
theorem d_Q_says_63 : decode b_Q_says 63 = .ok (.iload_n 1, 1) := by decide +kernel
theorem d_Q_says_64 : decode b_Q_says 64 = .ok (.getstatic 26, 3) := by decide +kernel
theorem d_Q_says_67 : decode b_Q_says 67 = .ok (.iload_n 2, 1) := by decide +kernel
theorem d_Q_says_68 : decode b_Q_says 68 = .ok (.aaload, 1) := by decide +kernel
theorem d_Q_says_69 : decode b_Q_says 69 = .ok (.getfield 40, 3) := by decide +kernel
theorem d_Q_says_72 : decode b_Q_says 72 = .ok (.ior, 1) := by decide +kernel
theorem d_Q_says_73 : decode b_Q_says 73 = .ok (.istore_n 1, 1) := by decide +kernel
theorem d_Q_says_74 : decode b_Q_says 74 = .ok (.iinc 2 1, 3) := by decide +kernel
theorem d_Q_says_77 : decode b_Q_says 77 = .ok (.goto (-45), 3) := by decide +kernel
theorem d_Q_says_80 : decode b_Q_says 80 = .ok (.iload_n 1, 1) := by decide +kernel
theorem d_Q_says_81 : decode b_Q_says 81 = .ok (.ireturn, 1) := by decide +kernel
theorem d_S_check_0 : decode b_S_check 0 = .ok (.aload_n 0, 1) := by decide +kernel
theorem d_S_check_1 : decode b_S_check 1 = .ok (.getfield 18, 3) := by decide +kernel
theorem d_S_check_4 : decode b_S_check 4 = .ok (.aload_n 0, 1) := by decide +kernel
theorem d_S_check_5 : decode b_S_check 5 = .ok (.getfield 31, 3) := by decide +kernel
theorem d_S_check_8 : decode b_S_check 8 = .ok (.invokevirtual 38, 3) := by decide +kernel
theorem d_S_check_11 : decode b_S_check 11 = .ok (.aload_n 0, 1) := by decide +kernel
theorem d_S_check_12 : decode b_S_check 12 = .ok (.getfield 27, 3) := by decide +kernel
theorem d_S_check_15 : decode b_S_check 15 = .ok (.invokevirtual 42, 3) := by decide +kernel
theorem d_S_check_18 : decode b_S_check 18 = .ok (.istore_n 1, 1) := by decide +kernel
theorem d_S_check_19 : decode b_S_check 19 = .ok (.aload_n 0, 1) := by decide +kernel
theorem d_S_check_20 : decode b_S_check 20 = .ok (.iload_n 1, 1) := by decide +kernel
theorem d_S_check_21 : decode b_S_check 21 = .ok (.ifCond .eq 7, 3) := by decide +kernel
theorem d_S_check_24 : decode b_S_check 24 = .ok (.iconst (-1), 1) := by decide +kernel
theorem d_S_check_25 : decode b_S_check 25 = .ok (.goto 10, 3) := by decide +kernel
theorem d_S_check_28 : decode b_S_check 28 = .ok (.aload_n 0, 1) := by decide +kernel
theorem d_S_check_29 : decode b_S_check 29 = .ok (.getfield 27, 3) := by decide +kernel
theorem d_S_check_32 : decode b_S_check 32 = .ok (.invokevirtual 46, 3) := by decide +kernel
theorem d_S_check_35 : decode b_S_check 35 = .ok (.putfield 35, 3) := by decide +kernel
theorem d_S_check_38 : decode b_S_check 38 = .ok (.iload_n 1, 1) := by decide +kernel
theorem d_S_check_39 : decode b_S_check 39 = .ok (.ifCond .eq 7, 3) := by decide +kernel
theorem d_S_check_42 : decode b_S_check 42 = .ok (.iconst 0, 1) := by decide +kernel
theorem d_S_check_43 : decode b_S_check 43 = .ok (.goto 11, 3) := by decide +kernel
theorem d_S_check_46 : decode b_S_check 46 = .ok (.aload_n 0, 1) := by decide +kernel
theorem d_S_check_47 : decode b_S_check 47 = .ok (.aload_n 0, 1) := by decide +kernel
theorem d_S_check_48 : decode b_S_check 48 = .ok (.getfield 35, 3) := by decide +kernel
theorem d_S_check_51 : decode b_S_check 51 = .ok (.invokevirtual 50, 3) := by decide +kernel
theorem d_S_check_54 : decode b_S_check 54 = .ok (.istore_n 2, 1) := by decide +kernel
theorem d_S_check_55 : decode b_S_check 55 = .ok (.aload_n 0, 1) := by decide +kernel
theorem d_S_check_56 : decode b_S_check 56 = .ok (.iconst 0, 1) := by decide +kernel
theorem d_S_check_57 : decode b_S_check 57 = .ok (.putfield 31, 3) := by decide +kernel
theorem d_S_check_60 : decode b_S_check 60 = .ok (.iload_n 2, 1) := by decide +kernel
theorem d_S_check_61 : decode b_S_check 61 = .ok (.ireturn, 1) := by decide +kernel
theorem d_S_count_0 : decode b_S_count 0 = .ok (.iload_n 1, 1) := by decide +kernel
theorem d_S_count_1 : decode b_S_count 1 = .ok (.tableswitch 60 0 3 #[31, 36, 44, 52], 31) := by decide +kernel
theorem d_S_count_32 : decode b_S_count 32 = .ok (.aload_n 0, 1) := by decide +kernel
theorem d_S_count_33 : decode b_S_count 33 = .ok (.getfield 31, 3) := by decide +kernel
theorem d_S_count_36 : decode b_S_count 36 = .ok (.ireturn, 1) := by decide +kernel
theorem d_S_count_37 : decode b_S_count 37 = .ok (.aload_n 0, 1) := by decide +kernel
theorem d_S_count_38 : decode b_S_count 38 = .ok (.getfield 27, 3) := by decide +kernel
theorem d_S_count_41 : decode b_S_count 41 = .ok (.getfield 54, 3) := by decide +kernel
theorem d_S_count_44 : decode b_S_count 44 = .ok (.ireturn, 1) := by decide +kernel
theorem d_S_count_45 : decode b_S_count 45 = .ok (.aload_n 0, 1) := by decide +kernel
theorem d_S_count_46 : decode b_S_count 46 = .ok (.getfield 27, 3) := by decide +kernel
theorem d_S_count_49 : decode b_S_count 49 = .ok (.getfield 57, 3) := by decide +kernel
theorem d_S_count_52 : decode b_S_count 52 = .ok (.ireturn, 1) := by decide +kernel
theorem d_S_count_53 : decode b_S_count 53 = .ok (.aload_n 0, 1) := by decide +kernel
theorem d_S_count_54 : decode b_S_count 54 = .ok (.getfield 27, 3) := by decide +kernel
theorem d_S_count_57 : decode b_S_count 57 = .ok (.getfield 60, 3) := by decide +kernel
theorem d_S_count_60 : decode b_S_count 60 = .ok (.ireturn, 1) := by decide +kernel
theorem d_S_count_61 : decode b_S_count 61 = .ok (.iconst (-1), 1) := by decide +kernel
theorem d_S_count_62 : decode b_S_count 62 = .ok (.ireturn, 1) := by decide +kernel
theorem d_S_goesOnWord_0 : decode b_S_goesOnWord 0 = .ok (.iload_n 0, 1) := by decide +kernel
theorem d_S_goesOnWord_1 : decode b_S_goesOnWord 1 = .ok (.bipush 95, 2) := by decide +kernel
theorem d_S_goesOnWord_3 : decode b_S_goesOnWord 3 = .ok (.if_icmp .eq 17, 3) := by decide +kernel
theorem d_S_goesOnWord_6 : decode b_S_goesOnWord 6 = .ok (.iload_n 0, 1) := by decide +kernel
theorem d_S_goesOnWord_7 : decode b_S_goesOnWord 7 = .ok (.invokestatic 63, 3) := by decide +kernel
theorem d_S_goesOnWord_10 : decode b_S_goesOnWord 10 = .ok (.ifCond .ne 10, 3) := by decide +kernel
theorem d_S_goesOnWord_13 : decode b_S_goesOnWord 13 = .ok (.iload_n 0, 1) := by decide +kernel
theorem d_S_goesOnWord_14 : decode b_S_goesOnWord 14 = .ok (.invokestatic 67, 3) := by decide +kernel
theorem d_S_goesOnWord_17 : decode b_S_goesOnWord 17 = .ok (.ifCond .eq 7, 3) := by decide +kernel
theorem d_S_goesOnWord_20 : decode b_S_goesOnWord 20 = .ok (.iconst 1, 1) := by decide +kernel
theorem d_S_goesOnWord_21 : decode b_S_goesOnWord 21 = .ok (.goto 4, 3) := by decide +kernel
theorem d_S_goesOnWord_24 : decode b_S_goesOnWord 24 = .ok (.iconst 0, 1) := by decide +kernel
theorem d_S_goesOnWord_25 : decode b_S_goesOnWord 25 = .ok (.ireturn, 1) := by decide +kernel
theorem d_S_init_0 : decode b_S_init 0 = .ok (.aload_n 0, 1) := by decide +kernel
theorem d_S_init_1 : decode b_S_init 1 = .ok (.invokespecial 3, 3) := by decide +kernel
theorem d_S_init_4 : decode b_S_init 4 = .ok (.aload_n 0, 1) := by decide +kernel
theorem d_S_init_5 : decode b_S_init 5 = .ok (.sipush 400, 3) := by decide +kernel
theorem d_S_init_8 : decode b_S_init 8 = .ok (.newarray .byte, 2) := by decide +kernel
theorem d_S_init_10 : decode b_S_init 10 = .ok (.putfield 9, 3) := by decide +kernel
theorem d_S_init_13 : decode b_S_init 13 = .ok (.aload_n 0, 1) := by decide +kernel
theorem d_S_init_14 : decode b_S_init 14 = .ok (.new 13, 3) := by decide +kernel
theorem d_S_init_17 : decode b_S_init 17 = .ok (.dup, 1) := by decide +kernel
theorem d_S_init_18 : decode b_S_init 18 = .ok (.aload_n 0, 1) := by decide +kernel
theorem d_S_init_19 : decode b_S_init 19 = .ok (.getfield 9, 3) := by decide +kernel
theorem d_S_init_22 : decode b_S_init 22 = .ok (.invokespecial 15, 3) := by decide +kernel
theorem d_S_init_25 : decode b_S_init 25 = .ok (.putfield 18, 3) := by decide +kernel
theorem d_S_init_28 : decode b_S_init 28 = .ok (.aload_n 0, 1) := by decide +kernel
theorem d_S_init_29 : decode b_S_init 29 = .ok (.new 22, 3) := by decide +kernel
theorem d_S_init_32 : decode b_S_init 32 = .ok (.dup, 1) := by decide +kernel
theorem d_S_init_33 : decode b_S_init 33 = .ok (.aload_n 0, 1) := by decide +kernel
theorem d_S_init_34 : decode b_S_init 34 = .ok (.getfield 18, 3) := by decide +kernel
theorem d_S_init_37 : decode b_S_init 37 = .ok (.invokespecial 24, 3) := by decide +kernel
theorem d_S_init_40 : decode b_S_init 40 = .ok (.putfield 27, 3) := by decide +kernel
theorem d_S_init_43 : decode b_S_init 43 = .ok (.aload_n 0, 1) := by decide +kernel
theorem d_S_init_44 : decode b_S_init 44 = .ok (.iconst 0, 1) := by decide +kernel
theorem d_S_init_45 : decode b_S_init 45 = .ok (.putfield 31, 3) := by decide +kernel
theorem d_S_init_48 : decode b_S_init 48 = .ok (.aload_n 0, 1) := by decide +kernel
theorem d_S_init_49 : decode b_S_init 49 = .ok (.iconst (-1), 1) := by decide +kernel
theorem d_S_init_50 : decode b_S_init 50 = .ok (.putfield 35, 3) := by decide +kernel
theorem d_S_init_53 : decode b_S_init 53 = .ok (.return_, 1) := by decide +kernel
theorem d_S_isDigit_0 : decode b_S_isDigit 0 = .ok (.iload_n 0, 1) := by decide +kernel
theorem d_S_isDigit_1 : decode b_S_isDigit 1 = .ok (.bipush 48, 2) := by decide +kernel
theorem d_S_isDigit_3 : decode b_S_isDigit 3 = .ok (.if_icmp .lt 13, 3) := by decide +kernel
theorem d_S_isDigit_6 : decode b_S_isDigit 6 = .ok (.iload_n 0, 1) := by decide +kernel
theorem d_S_isDigit_7 : decode b_S_isDigit 7 = .ok (.bipush 57, 2) := by decide +kernel
theorem d_S_isDigit_9 : decode b_S_isDigit 9 = .ok (.if_icmp .gt 7, 3) := by decide +kernel
theorem d_S_isDigit_12 : decode b_S_isDigit 12 = .ok (.iconst 1, 1) := by decide +kernel
theorem d_S_isDigit_13 : decode b_S_isDigit 13 = .ok (.goto 4, 3) := by decide +kernel
theorem d_S_isDigit_16 : decode b_S_isDigit 16 = .ok (.iconst 0, 1) := by decide +kernel
theorem d_S_isDigit_17 : decode b_S_isDigit 17 = .ok (.ireturn, 1) := by decide +kernel
theorem d_S_isLetter_0 : decode b_S_isLetter 0 = .ok (.iload_n 0, 1) := by decide +kernel
theorem d_S_isLetter_1 : decode b_S_isLetter 1 = .ok (.bipush 97, 2) := by decide +kernel
theorem d_S_isLetter_3 : decode b_S_isLetter 3 = .ok (.if_icmp .lt 9, 3) := by decide +kernel
theorem d_S_isLetter_6 : decode b_S_isLetter 6 = .ok (.iload_n 0, 1) := by decide +kernel
theorem d_S_isLetter_7 : decode b_S_isLetter 7 = .ok (.bipush 122, 2) := by decide +kernel
theorem d_S_isLetter_9 : decode b_S_isLetter 9 = .ok (.if_icmp .le 15, 3) := by decide +kernel
theorem d_S_isLetter_12 : decode b_S_isLetter 12 = .ok (.iload_n 0, 1) := by decide +kernel
theorem d_S_isLetter_13 : decode b_S_isLetter 13 = .ok (.bipush 65, 2) := by decide +kernel
theorem d_S_isLetter_15 : decode b_S_isLetter 15 = .ok (.if_icmp .lt 13, 3) := by decide +kernel
theorem d_S_isLetter_18 : decode b_S_isLetter 18 = .ok (.iload_n 0, 1) := by decide +kernel
theorem d_S_isLetter_19 : decode b_S_isLetter 19 = .ok (.bipush 90, 2) := by decide +kernel
theorem d_S_isLetter_21 : decode b_S_isLetter 21 = .ok (.if_icmp .gt 7, 3) := by decide +kernel
theorem d_S_isLetter_24 : decode b_S_isLetter 24 = .ok (.iconst 1, 1) := by decide +kernel
theorem d_S_isLetter_25 : decode b_S_isLetter 25 = .ok (.goto 4, 3) := by decide +kernel
theorem d_S_isLetter_28 : decode b_S_isLetter 28 = .ok (.iconst 0, 1) := by decide +kernel
theorem d_S_isLetter_29 : decode b_S_isLetter 29 = .ok (.ireturn, 1) := by decide +kernel
theorem d_S_lineOf_0 : decode b_S_lineOf 0 = .ok (.iconst 1, 1) := by decide +kernel
theorem d_S_lineOf_1 : decode b_S_lineOf 1 = .ok (.istore_n 2, 1) := by decide +kernel
theorem d_S_lineOf_2 : decode b_S_lineOf 2 = .ok (.iconst 0, 1) := by decide +kernel
theorem d_S_lineOf_3 : decode b_S_lineOf 3 = .ok (.istore_n 3, 1) := by decide +kernel
theorem d_S_lineOf_4 : decode b_S_lineOf 4 = .ok (.iload_n 3, 1) := by decide +kernel
theorem d_S_lineOf_5 : decode b_S_lineOf 5 = .ok (.iload_n 1, 1) := by decide +kernel
theorem d_S_lineOf_6 : decode b_S_lineOf 6 = .ok (.if_icmp .ge 32, 3) := by decide +kernel
theorem d_S_lineOf_9 : decode b_S_lineOf 9 = .ok (.iload_n 3, 1) := by decide +kernel
theorem d_S_lineOf_10 : decode b_S_lineOf 10 = .ok (.aload_n 0, 1) := by decide +kernel
theorem d_S_lineOf_11 : decode b_S_lineOf 11 = .ok (.getfield 9, 3) := by decide +kernel
theorem d_S_lineOf_14 : decode b_S_lineOf 14 = .ok (.arraylength, 1) := by decide +kernel
theorem d_S_lineOf_15 : decode b_S_lineOf 15 = .ok (.if_icmp .ge 23, 3) := by decide +kernel
theorem d_S_lineOf_18 : decode b_S_lineOf 18 = .ok (.aload_n 0, 1) := by decide +kernel
theorem d_S_lineOf_19 : decode b_S_lineOf 19 = .ok (.getfield 9, 3) := by decide +kernel
theorem d_S_lineOf_22 : decode b_S_lineOf 22 = .ok (.iload_n 3, 1) := by decide +kernel
theorem d_S_lineOf_23 : decode b_S_lineOf 23 = .ok (.baload, 1) := by decide +kernel
theorem d_S_lineOf_24 : decode b_S_lineOf 24 = .ok (.bipush 10, 2) := by decide +kernel
theorem d_S_lineOf_26 : decode b_S_lineOf 26 = .ok (.if_icmp .ne 6, 3) := by decide +kernel
theorem d_S_lineOf_29 : decode b_S_lineOf 29 = .ok (.iinc 2 1, 3) := by decide +kernel
theorem d_S_lineOf_32 : decode b_S_lineOf 32 = .ok (.iinc 3 1, 3) := by decide +kernel
theorem d_S_lineOf_35 : decode b_S_lineOf 35 = .ok (.goto (-31), 3) := by decide +kernel
theorem d_S_lineOf_38 : decode b_S_lineOf 38 = .ok (.iload_n 2, 1) := by decide +kernel
theorem d_S_lineOf_39 : decode b_S_lineOf 39 = .ok (.ireturn, 1) := by decide +kernel
theorem d_S_place_0 : decode b_S_place 0 = .ok (.aload_n 0, 1) := by decide +kernel
theorem d_S_place_1 : decode b_S_place 1 = .ok (.getfield 35, 3) := by decide +kernel
theorem d_S_place_4 : decode b_S_place 4 = .ok (.ireturn, 1) := by decide +kernel
theorem d_S_put_0 : decode b_S_put 0 = .ok (.iload_n 3, 1) := by decide +kernel
theorem d_S_put_1 : decode b_S_put 1 = .ok (.iconst 1, 1) := by decide +kernel
theorem d_S_put_2 : decode b_S_put 2 = .ok (.if_icmp .lt 21, 3) := by decide +kernel
theorem d_S_put_5 : decode b_S_put 5 = .ok (.iload_n 3, 1) := by decide +kernel
theorem d_S_put_6 : decode b_S_put 6 = .ok (.bipush 8, 2) := by decide +kernel
theorem d_S_put_8 : decode b_S_put 8 = .ok (.if_icmp .gt 15, 3) := by decide +kernel
theorem d_S_put_11 : decode b_S_put 11 = .ok (.iload_n 3, 1) := by decide +kernel
theorem d_S_put_12 : decode b_S_put 12 = .ok (.sipush 400, 3) := by decide +kernel
theorem d_S_put_15 : decode b_S_put 15 = .ok (.aload_n 0, 1) := by decide +kernel
theorem d_S_put_16 : decode b_S_put 16 = .ok (.getfield 31, 3) := by decide +kernel
theorem d_S_put_19 : decode b_S_put 19 = .ok (.isub, 1) := by decide +kernel
theorem d_S_put_20 : decode b_S_put 20 = .ok (.if_icmp .le 5, 3) := by decide +kernel
theorem d_S_put_23 : decode b_S_put 23 = .ok (.iconst 0, 1) := by decide +kernel
theorem d_S_put_24 : decode b_S_put 24 = .ok (.ireturn, 1) := by decide +kernel
theorem d_S_put_25 : decode b_S_put 25 = .ok (.iload_n 3, 1) := by decide +kernel
theorem d_S_put_26 : decode b_S_put 26 = .ok (.iconst 1, 1) := by decide +kernel
theorem d_S_put_27 : decode b_S_put 27 = .ok (.isub, 1) := by decide +kernel
theorem d_S_put_28 : decode b_S_put 28 = .ok (.istore 4, 2) := by decide +kernel
theorem d_S_put_30 : decode b_S_put 30 = .ok (.iload 4, 2) := by decide +kernel
theorem d_S_put_32 : decode b_S_put 32 = .ok (.ifCond .lt 37, 3) := by decide +kernel
theorem d_S_put_35 : decode b_S_put 35 = .ok (.aload_n 0, 1) := by decide +kernel
theorem d_S_put_36 : decode b_S_put 36 = .ok (.getfield 9, 3) := by decide +kernel
theorem d_S_put_39 : decode b_S_put 39 = .ok (.aload_n 0, 1) := by decide +kernel
theorem d_S_put_40 : decode b_S_put 40 = .ok (.getfield 31, 3) := by decide +kernel
theorem d_S_put_43 : decode b_S_put 43 = .ok (.lload_n 1, 1) := by decide +kernel
theorem d_S_put_44 : decode b_S_put 44 = .ok (.bipush 8, 2) := by decide +kernel
theorem d_S_put_46 : decode b_S_put 46 = .ok (.iload 4, 2) := by decide +kernel
theorem d_S_put_48 : decode b_S_put 48 = .ok (.imul, 1) := by decide +kernel
theorem d_S_put_49 : decode b_S_put 49 = .ok (.lushr, 1) := by decide +kernel
theorem d_S_put_50 : decode b_S_put 50 = .ok (.l2i, 1) := by decide +kernel
theorem d_S_put_51 : decode b_S_put 51 = .ok (.i2b, 1) := by decide +kernel
theorem d_S_put_52 : decode b_S_put 52 = .ok (.bastore, 1) := by decide +kernel
theorem d_S_put_53 : decode b_S_put 53 = .ok (.aload_n 0, 1) := by decide +kernel
theorem d_S_put_54 : decode b_S_put 54 = .ok (.dup, 1) := by decide +kernel
theorem d_S_put_55 : decode b_S_put 55 = .ok (.getfield 31, 3) := by decide +kernel
theorem d_S_put_58 : decode b_S_put 58 = .ok (.iconst 1, 1) := by decide +kernel
theorem d_S_put_59 : decode b_S_put 59 = .ok (.iadd, 1) := by decide +kernel
theorem d_S_put_60 : decode b_S_put 60 = .ok (.putfield 31, 3) := by decide +kernel
theorem d_S_put_63 : decode b_S_put 63 = .ok (.iinc 4 (-1), 3) := by decide +kernel
theorem d_S_put_66 : decode b_S_put 66 = .ok (.goto (-36), 3) := by decide +kernel
theorem d_S_put_69 : decode b_S_put 69 = .ok (.iconst 1, 1) := by decide +kernel
theorem d_S_put_70 : decode b_S_put 70 = .ok (.ireturn, 1) := by decide +kernel
theorem d_S_same_0 : decode b_S_same 0 = .ok (.iload_n 1, 1) := by decide +kernel
theorem d_S_same_1 : decode b_S_same 1 = .ok (.ifCond .lt 19, 3) := by decide +kernel
theorem d_S_same_4 : decode b_S_same 4 = .ok (.iload_n 2, 1) := by decide +kernel
theorem d_S_same_5 : decode b_S_same 5 = .ok (.aload_n 0, 1) := by decide +kernel
theorem d_S_same_6 : decode b_S_same 6 = .ok (.arraylength, 1) := by decide +kernel
theorem d_S_same_7 : decode b_S_same 7 = .ok (.if_icmp .gt 13, 3) := by decide +kernel
theorem d_S_same_10 : decode b_S_same 10 = .ok (.iload_n 2, 1) := by decide +kernel
theorem d_S_same_11 : decode b_S_same 11 = .ok (.iload_n 1, 1) := by decide +kernel
theorem d_S_same_12 : decode b_S_same 12 = .ok (.isub, 1) := by decide +kernel
theorem d_S_same_13 : decode b_S_same 13 = .ok (.aload_n 3, 1) := by decide +kernel
theorem d_S_same_14 : decode b_S_same 14 = .ok (.invokevirtual 70, 3) := by decide +kernel
theorem d_S_same_17 : decode b_S_same 17 = .ok (.if_icmp .eq 5, 3) := by decide +kernel
theorem d_S_same_20 : decode b_S_same 20 = .ok (.iconst 0, 1) := by decide +kernel
theorem d_S_same_21 : decode b_S_same 21 = .ok (.ireturn, 1) := by decide +kernel
theorem d_S_same_22 : decode b_S_same 22 = .ok (.iconst 0, 1) := by decide +kernel
theorem d_S_same_23 : decode b_S_same 23 = .ok (.istore 4, 2) := by decide +kernel
theorem d_S_same_25 : decode b_S_same 25 = .ok (.iload 4, 2) := by decide +kernel
theorem d_S_same_27 : decode b_S_same 27 = .ok (.aload_n 3, 1) := by decide +kernel
theorem d_S_same_28 : decode b_S_same 28 = .ok (.invokevirtual 70, 3) := by decide +kernel
theorem d_S_same_31 : decode b_S_same 31 = .ok (.if_icmp .ge 54, 3) := by decide +kernel
theorem d_S_same_34 : decode b_S_same 34 = .ok (.aload_n 0, 1) := by decide +kernel
theorem d_S_same_35 : decode b_S_same 35 = .ok (.iload_n 1, 1) := by decide +kernel
theorem d_S_same_36 : decode b_S_same 36 = .ok (.iload 4, 2) := by decide +kernel
theorem d_S_same_38 : decode b_S_same 38 = .ok (.iadd, 1) := by decide +kernel
theorem d_S_same_39 : decode b_S_same 39 = .ok (.baload, 1) := by decide +kernel
theorem d_S_same_40 : decode b_S_same 40 = .ok (.sipush 255, 3) := by decide +kernel
theorem d_S_same_43 : decode b_S_same 43 = .ok (.iand, 1) := by decide +kernel
theorem d_S_same_44 : decode b_S_same 44 = .ok (.istore 5, 2) := by decide +kernel
theorem d_S_same_46 : decode b_S_same 46 = .ok (.iload 5, 2) := by decide +kernel
theorem d_S_same_48 : decode b_S_same 48 = .ok (.invokestatic 63, 3) := by decide +kernel
theorem d_S_same_51 : decode b_S_same 51 = .ok (.ifCond .eq 11, 3) := by decide +kernel
theorem d_S_same_54 : decode b_S_same 54 = .ok (.iload 5, 2) := by decide +kernel
theorem d_S_same_56 : decode b_S_same 56 = .ok (.bipush 32, 2) := by decide +kernel
theorem d_S_same_58 : decode b_S_same 58 = .ok (.ior, 1) := by decide +kernel
theorem d_S_same_59 : decode b_S_same 59 = .ok (.goto 5, 3) := by decide +kernel
theorem d_S_same_62 : decode b_S_same 62 = .ok (.iload 5, 2) := by decide +kernel
theorem d_S_same_64 : decode b_S_same 64 = .ok (.istore 6, 2) := by decide +kernel
theorem d_S_same_66 : decode b_S_same 66 = .ok (.iload 6, 2) := by decide +kernel
theorem d_S_same_68 : decode b_S_same 68 = .ok (.aload_n 3, 1) := by decide +kernel
theorem d_S_same_69 : decode b_S_same 69 = .ok (.iload 4, 2) := by decide +kernel
theorem d_S_same_71 : decode b_S_same 71 = .ok (.invokevirtual 74, 3) := by decide +kernel
theorem d_S_same_74 : decode b_S_same 74 = .ok (.if_icmp .eq 5, 3) := by decide +kernel
theorem d_S_same_77 : decode b_S_same 77 = .ok (.iconst 0, 1) := by decide +kernel
theorem d_S_same_78 : decode b_S_same 78 = .ok (.ireturn, 1) := by decide +kernel
theorem d_S_same_79 : decode b_S_same 79 = .ok (.iinc 4 1, 3) := by decide +kernel
theorem d_S_same_82 : decode b_S_same 82 = .ok (.goto (-57), 3) := by decide +kernel
theorem d_S_same_85 : decode b_S_same 85 = .ok (.iconst 1, 1) := by decide +kernel
theorem d_S_same_86 : decode b_S_same 86 = .ok (.ireturn, 1) := by decide +kernel
theorem d_S_startsWord_0 : decode b_S_startsWord 0 = .ok (.iload_n 0, 1) := by decide +kernel
theorem d_S_startsWord_1 : decode b_S_startsWord 1 = .ok (.bipush 95, 2) := by decide +kernel
theorem d_S_startsWord_3 : decode b_S_startsWord 3 = .ok (.if_icmp .eq 10, 3) := by decide +kernel
theorem d_S_startsWord_6 : decode b_S_startsWord 6 = .ok (.iload_n 0, 1) := by decide +kernel
theorem d_S_startsWord_7 : decode b_S_startsWord 7 = .ok (.invokestatic 63, 3) := by decide +kernel
theorem d_S_startsWord_10 : decode b_S_startsWord 10 = .ok (.ifCond .eq 7, 3) := by decide +kernel
theorem d_S_startsWord_13 : decode b_S_startsWord 13 = .ok (.iconst 1, 1) := by decide +kernel
theorem d_S_startsWord_14 : decode b_S_startsWord 14 = .ok (.goto 4, 3) := by decide +kernel
theorem d_S_startsWord_17 : decode b_S_startsWord 17 = .ok (.iconst 0, 1) := by decide +kernel
theorem d_S_startsWord_18 : decode b_S_startsWord 18 = .ok (.ireturn, 1) := by decide +kernel
theorem d_T_add_0 : decode b_T_add 0 = .ok (.aload_n 0, 1) := by decide +kernel
theorem d_T_add_1 : decode b_T_add 1 = .ok (.getfield 38, 3) := by decide +kernel
theorem d_T_add_4 : decode b_T_add 4 = .ok (.sipush 401, 3) := by decide +kernel
theorem d_T_add_7 : decode b_T_add 7 = .ok (.if_icmp .ge 56, 3) := by decide +kernel
theorem d_T_add_10 : decode b_T_add 10 = .ok (.aload_n 0, 1) := by decide +kernel
theorem d_T_add_11 : decode b_T_add 11 = .ok (.getfield 15, 3) := by decide +kernel
theorem d_T_add_14 : decode b_T_add 14 = .ok (.aload_n 0, 1) := by decide +kernel
theorem d_T_add_15 : decode b_T_add 15 = .ok (.getfield 38, 3) := by decide +kernel
theorem d_T_add_18 : decode b_T_add 18 = .ok (.iload_n 1, 1) := by decide +kernel
theorem d_T_add_19 : decode b_T_add 19 = .ok (.iastore, 1) := by decide +kernel
theorem d_T_add_20 : decode b_T_add 20 = .ok (.aload_n 0, 1) := by decide +kernel
theorem d_T_add_21 : decode b_T_add 21 = .ok (.getfield 19, 3) := by decide +kernel
theorem d_T_add_24 : decode b_T_add 24 = .ok (.aload_n 0, 1) := by decide +kernel
theorem d_T_add_25 : decode b_T_add 25 = .ok (.getfield 38, 3) := by decide +kernel
theorem d_T_add_28 : decode b_T_add 28 = .ok (.aload_n 0, 1) := by decide +kernel
theorem d_T_add_29 : decode b_T_add 29 = .ok (.getfield 45, 3) := by decide +kernel
theorem d_T_add_32 : decode b_T_add 32 = .ok (.iastore, 1) := by decide +kernel
theorem d_T_add_33 : decode b_T_add 33 = .ok (.aload_n 0, 1) := by decide +kernel
theorem d_T_add_34 : decode b_T_add 34 = .ok (.getfield 24, 3) := by decide +kernel
theorem d_T_add_37 : decode b_T_add 37 = .ok (.aload_n 0, 1) := by decide +kernel
theorem d_T_add_38 : decode b_T_add 38 = .ok (.getfield 38, 3) := by decide +kernel
theorem d_T_add_41 : decode b_T_add 41 = .ok (.aload_n 2, 1) := by decide +kernel
theorem d_T_add_42 : decode b_T_add 42 = .ok (.aastore, 1) := by decide +kernel
theorem d_T_add_43 : decode b_T_add 43 = .ok (.aload_n 0, 1) := by decide +kernel
theorem d_T_add_44 : decode b_T_add 44 = .ok (.getfield 28, 3) := by decide +kernel
theorem d_T_add_47 : decode b_T_add 47 = .ok (.aload_n 0, 1) := by decide +kernel
theorem d_T_add_48 : decode b_T_add 48 = .ok (.getfield 38, 3) := by decide +kernel
theorem d_T_add_51 : decode b_T_add 51 = .ok (.iload_n 3, 1) := by decide +kernel
theorem d_T_add_52 : decode b_T_add 52 = .ok (.iastore, 1) := by decide +kernel
theorem d_T_add_53 : decode b_T_add 53 = .ok (.aload_n 0, 1) := by decide +kernel
theorem d_T_add_54 : decode b_T_add 54 = .ok (.dup, 1) := by decide +kernel
theorem d_T_add_55 : decode b_T_add 55 = .ok (.getfield 38, 3) := by decide +kernel
theorem d_T_add_58 : decode b_T_add 58 = .ok (.iconst 1, 1) := by decide +kernel
theorem d_T_add_59 : decode b_T_add 59 = .ok (.iadd, 1) := by decide +kernel
theorem d_T_add_60 : decode b_T_add 60 = .ok (.putfield 38, 3) := by decide +kernel
theorem d_T_add_63 : decode b_T_add 63 = .ok (.aload_n 0, 1) := by decide +kernel
theorem d_T_add_64 : decode b_T_add 64 = .ok (.iload 4, 2) := by decide +kernel
theorem d_T_add_66 : decode b_T_add 66 = .ok (.putfield 45, 3) := by decide +kernel
theorem d_T_add_69 : decode b_T_add 69 = .ok (.return_, 1) := by decide +kernel
theorem d_T_behindComment_0 : decode b_T_behindComment 0 = .ok (.iload_n 1, 1) := by decide +kernel
theorem d_T_behindComment_1 : decode b_T_behindComment 1 = .ok (.istore_n 2, 1) := by decide +kernel
theorem d_T_behindComment_2 : decode b_T_behindComment 2 = .ok (.iload_n 2, 1) := by decide +kernel
theorem d_T_behindComment_3 : decode b_T_behindComment 3 = .ok (.aload_n 0, 1) := by decide +kernel
theorem d_T_behindComment_4 : decode b_T_behindComment 4 = .ok (.getfield 42, 3) := by decide +kernel
theorem d_T_behindComment_7 : decode b_T_behindComment 7 = .ok (.if_icmp .ge 35, 3) := by decide +kernel
theorem d_T_behindComment_10 : decode b_T_behindComment 10 = .ok (.aload_n 0, 1) := by decide +kernel
theorem d_T_behindComment_11 : decode b_T_behindComment 11 = .ok (.iload_n 2, 1) := by decide +kernel
theorem d_T_behindComment_12 : decode b_T_behindComment 12 = .ok (.invokevirtual 63, 3) := by decide +kernel
theorem d_T_behindComment_15 : decode b_T_behindComment 15 = .ok (.bipush 42, 2) := by decide +kernel
theorem d_T_behindComment_17 : decode b_T_behindComment 17 = .ok (.if_icmp .ne 19, 3) := by decide +kernel
theorem d_T_behindComment_20 : decode b_T_behindComment 20 = .ok (.aload_n 0, 1) := by decide +kernel
theorem d_T_behindComment_21 : decode b_T_behindComment 21 = .ok (.iload_n 2, 1) := by decide +kernel
theorem d_T_behindComment_22 : decode b_T_behindComment 22 = .ok (.iconst 1, 1) := by decide +kernel
theorem d_T_behindComment_23 : decode b_T_behindComment 23 = .ok (.iadd, 1) := by decide +kernel
theorem d_T_behindComment_24 : decode b_T_behindComment 24 = .ok (.invokevirtual 63, 3) := by decide +kernel
theorem d_T_behindComment_27 : decode b_T_behindComment 27 = .ok (.bipush 47, 2) := by decide +kernel
theorem d_T_behindComment_29 : decode b_T_behindComment 29 = .ok (.if_icmp .ne 7, 3) := by decide +kernel
theorem d_T_behindComment_32 : decode b_T_behindComment 32 = .ok (.iload_n 2, 1) := by decide +kernel
theorem d_T_behindComment_33 : decode b_T_behindComment 33 = .ok (.iconst 2, 1) := by decide +kernel
theorem d_T_behindComment_34 : decode b_T_behindComment 34 = .ok (.iadd, 1) := by decide +kernel
theorem d_T_behindComment_35 : decode b_T_behindComment 35 = .ok (.ireturn, 1) := by decide +kernel
theorem d_T_behindComment_36 : decode b_T_behindComment 36 = .ok (.iinc 2 1, 3) := by decide +kernel
theorem d_T_behindComment_39 : decode b_T_behindComment 39 = .ok (.goto (-37), 3) := by decide +kernel
theorem d_T_behindComment_42 : decode b_T_behindComment 42 = .ok (.iconst (-1), 1) := by decide +kernel
theorem d_T_behindComment_43 : decode b_T_behindComment 43 = .ok (.ireturn, 1) := by decide +kernel
theorem d_T_behindLine_0 : decode b_T_behindLine 0 = .ok (.iload_n 1, 1) := by decide +kernel
theorem d_T_behindLine_1 : decode b_T_behindLine 1 = .ok (.istore_n 2, 1) := by decide +kernel
theorem d_T_behindLine_2 : decode b_T_behindLine 2 = .ok (.iload_n 2, 1) := by decide +kernel
theorem d_T_behindLine_3 : decode b_T_behindLine 3 = .ok (.aload_n 0, 1) := by decide +kernel
theorem d_T_behindLine_4 : decode b_T_behindLine 4 = .ok (.getfield 42, 3) := by decide +kernel
theorem d_T_behindLine_7 : decode b_T_behindLine 7 = .ok (.if_icmp .ge 23, 3) := by decide +kernel
theorem d_T_behindLine_10 : decode b_T_behindLine 10 = .ok (.aload_n 0, 1) := by decide +kernel
theorem d_T_behindLine_11 : decode b_T_behindLine 11 = .ok (.iload_n 2, 1) := by decide +kernel
theorem d_T_behindLine_12 : decode b_T_behindLine 12 = .ok (.invokevirtual 63, 3) := by decide +kernel
theorem d_T_behindLine_15 : decode b_T_behindLine 15 = .ok (.bipush 10, 2) := by decide +kernel
theorem d_T_behindLine_17 : decode b_T_behindLine 17 = .ok (.if_icmp .ne 7, 3) := by decide +kernel
theorem d_T_behindLine_20 : decode b_T_behindLine 20 = .ok (.iload_n 2, 1) := by decide +kernel
theorem d_T_behindLine_21 : decode b_T_behindLine 21 = .ok (.iconst 1, 1) := by decide +kernel
theorem d_T_behindLine_22 : decode b_T_behindLine 22 = .ok (.iadd, 1) := by decide +kernel
theorem d_T_behindLine_23 : decode b_T_behindLine 23 = .ok (.ireturn, 1) := by decide +kernel
theorem d_T_behindLine_24 : decode b_T_behindLine 24 = .ok (.iinc 2 1, 3) := by decide +kernel
theorem d_T_behindLine_27 : decode b_T_behindLine 27 = .ok (.goto (-25), 3) := by decide +kernel
theorem d_T_behindLine_30 : decode b_T_behindLine 30 = .ok (.iconst (-1), 1) := by decide +kernel
theorem d_T_behindLine_31 : decode b_T_behindLine 31 = .ok (.ireturn, 1) := by decide +kernel
theorem d_T_behindLineEnd_0 : decode b_T_behindLineEnd 0 = .ok (.aload_n 0, 1) := by decide +kernel
theorem d_T_behindLineEnd_1 : decode b_T_behindLineEnd 1 = .ok (.iload_n 1, 1) := by decide +kernel
theorem d_T_behindLineEnd_2 : decode b_T_behindLineEnd 2 = .ok (.invokevirtual 63, 3) := by decide +kernel
theorem d_T_behindLineEnd_5 : decode b_T_behindLineEnd 5 = .ok (.bipush 10, 2) := by decide +kernel
theorem d_T_behindLineEnd_7 : decode b_T_behindLineEnd 7 = .ok (.if_icmp .ne 7, 3) := by decide +kernel
theorem d_T_behindLineEnd_10 : decode b_T_behindLineEnd 10 = .ok (.iload_n 1, 1) := by decide +kernel
theorem d_T_behindLineEnd_11 : decode b_T_behindLineEnd 11 = .ok (.iconst 1, 1) := by decide +kernel
theorem d_T_behindLineEnd_12 : decode b_T_behindLineEnd 12 = .ok (.iadd, 1) := by decide +kernel
theorem d_T_behindLineEnd_13 : decode b_T_behindLineEnd 13 = .ok (.ireturn, 1) := by decide +kernel
theorem d_T_behindLineEnd_14 : decode b_T_behindLineEnd 14 = .ok (.aload_n 0, 1) := by decide +kernel
theorem d_T_behindLineEnd_15 : decode b_T_behindLineEnd 15 = .ok (.iload_n 1, 1) := by decide +kernel
theorem d_T_behindLineEnd_16 : decode b_T_behindLineEnd 16 = .ok (.invokevirtual 63, 3) := by decide +kernel
theorem d_T_behindLineEnd_19 : decode b_T_behindLineEnd 19 = .ok (.bipush 13, 2) := by decide +kernel
theorem d_T_behindLineEnd_21 : decode b_T_behindLineEnd 21 = .ok (.if_icmp .ne 21, 3) := by decide +kernel
theorem d_T_behindLineEnd_24 : decode b_T_behindLineEnd 24 = .ok (.aload_n 0, 1) := by decide +kernel
theorem d_T_behindLineEnd_25 : decode b_T_behindLineEnd 25 = .ok (.iload_n 1, 1) := by decide +kernel
theorem d_T_behindLineEnd_26 : decode b_T_behindLineEnd 26 = .ok (.iconst 1, 1) := by decide +kernel
theorem d_T_behindLineEnd_27 : decode b_T_behindLineEnd 27 = .ok (.iadd, 1) := by decide +kernel
theorem d_T_behindLineEnd_28 : decode b_T_behindLineEnd 28 = .ok (.invokevirtual 63, 3) := by decide +kernel
theorem d_T_behindLineEnd_31 : decode b_T_behindLineEnd 31 = .ok (.bipush 10, 2) := by decide +kernel
theorem d_T_behindLineEnd_33 : decode b_T_behindLineEnd 33 = .ok (.if_icmp .ne 9, 3) := by decide +kernel
theorem d_T_behindLineEnd_36 : decode b_T_behindLineEnd 36 = .ok (.iload_n 1, 1) := by decide +kernel
theorem d_T_behindLineEnd_37 : decode b_T_behindLineEnd 37 = .ok (.iconst 2, 1) := by decide +kernel
theorem d_T_behindLineEnd_38 : decode b_T_behindLineEnd 38 = .ok (.iadd, 1) := by decide +kernel
theorem d_T_behindLineEnd_39 : decode b_T_behindLineEnd 39 = .ok (.goto 4, 3) := by decide +kernel
theorem d_T_behindLineEnd_42 : decode b_T_behindLineEnd 42 = .ok (.iconst (-1), 1) := by decide +kernel
theorem d_T_behindLineEnd_43 : decode b_T_behindLineEnd 43 = .ok (.ireturn, 1) := by decide +kernel
theorem d_T_byteAt_0 : decode b_T_byteAt 0 = .ok (.iload_n 1, 1) := by decide +kernel
theorem d_T_byteAt_1 : decode b_T_byteAt 1 = .ok (.ifCond .lt 33, 3) := by decide +kernel
theorem d_T_byteAt_4 : decode b_T_byteAt 4 = .ok (.iload_n 1, 1) := by decide +kernel
theorem d_T_byteAt_5 : decode b_T_byteAt 5 = .ok (.aload_n 0, 1) := by decide +kernel
theorem d_T_byteAt_6 : decode b_T_byteAt 6 = .ok (.getfield 42, 3) := by decide +kernel
theorem d_T_byteAt_9 : decode b_T_byteAt 9 = .ok (.if_icmp .ge 25, 3) := by decide +kernel
theorem d_T_byteAt_12 : decode b_T_byteAt 12 = .ok (.iload_n 1, 1) := by decide +kernel
theorem d_T_byteAt_13 : decode b_T_byteAt 13 = .ok (.aload_n 0, 1) := by decide +kernel
theorem d_T_byteAt_14 : decode b_T_byteAt 14 = .ok (.getfield 9, 3) := by decide +kernel
theorem d_T_byteAt_17 : decode b_T_byteAt 17 = .ok (.arraylength, 1) := by decide +kernel
theorem d_T_byteAt_18 : decode b_T_byteAt 18 = .ok (.if_icmp .ge 16, 3) := by decide +kernel
theorem d_T_byteAt_21 : decode b_T_byteAt 21 = .ok (.aload_n 0, 1) := by decide +kernel
theorem d_T_byteAt_22 : decode b_T_byteAt 22 = .ok (.getfield 9, 3) := by decide +kernel
theorem d_T_byteAt_25 : decode b_T_byteAt 25 = .ok (.iload_n 1, 1) := by decide +kernel
theorem d_T_byteAt_26 : decode b_T_byteAt 26 = .ok (.baload, 1) := by decide +kernel
theorem d_T_byteAt_27 : decode b_T_byteAt 27 = .ok (.sipush 255, 3) := by decide +kernel
theorem d_T_byteAt_30 : decode b_T_byteAt 30 = .ok (.iand, 1) := by decide +kernel
theorem d_T_byteAt_31 : decode b_T_byteAt 31 = .ok (.goto 4, 3) := by decide +kernel
theorem d_T_byteAt_34 : decode b_T_byteAt 34 = .ok (.iconst (-1), 1) := by decide +kernel
theorem d_T_byteAt_35 : decode b_T_byteAt 35 = .ok (.ireturn, 1) := by decide +kernel
theorem d_T_init_0 : decode b_T_init 0 = .ok (.aload_n 0, 1) := by decide +kernel
theorem d_T_init_1 : decode b_T_init 1 = .ok (.invokespecial 3, 3) := by decide +kernel
theorem d_T_init_4 : decode b_T_init 4 = .ok (.aload_n 0, 1) := by decide +kernel
theorem d_T_init_5 : decode b_T_init 5 = .ok (.aload_n 1, 1) := by decide +kernel
theorem d_T_init_6 : decode b_T_init 6 = .ok (.putfield 9, 3) := by decide +kernel
theorem d_T_init_9 : decode b_T_init 9 = .ok (.aload_n 0, 1) := by decide +kernel
theorem d_T_init_10 : decode b_T_init 10 = .ok (.sipush 401, 3) := by decide +kernel
theorem d_T_init_13 : decode b_T_init 13 = .ok (.newarray .int, 2) := by decide +kernel
theorem d_T_init_15 : decode b_T_init 15 = .ok (.putfield 15, 3) := by decide +kernel
theorem d_T_init_18 : decode b_T_init 18 = .ok (.aload_n 0, 1) := by decide +kernel
theorem d_T_init_19 : decode b_T_init 19 = .ok (.sipush 401, 3) := by decide +kernel
theorem d_T_init_22 : decode b_T_init 22 = .ok (.newarray .int, 2) := by decide +kernel
theorem d_T_init_24 : decode b_T_init 24 = .ok (.putfield 19, 3) := by decide +kernel
theorem d_T_init_27 : decode b_T_init 27 = .ok (.aload_n 0, 1) := by decide +kernel
theorem d_T_init_28 : decode b_T_init 28 = .ok (.sipush 401, 3) := by decide +kernel
theorem d_T_init_31 : decode b_T_init 31 = .ok (.anewarray 22, 3) := by decide +kernel
theorem d_T_init_34 : decode b_T_init 34 = .ok (.putfield 24, 3) := by decide +kernel
theorem d_T_init_37 : decode b_T_init 37 = .ok (.aload_n 0, 1) := by decide +kernel
theorem d_T_init_38 : decode b_T_init 38 = .ok (.sipush 401, 3) := by decide +kernel
theorem d_T_init_41 : decode b_T_init 41 = .ok (.newarray .int, 2) := by decide +kernel
theorem d_T_init_43 : decode b_T_init 43 = .ok (.putfield 28, 3) := by decide +kernel
theorem d_T_init_46 : decode b_T_init 46 = .ok (.aload_n 0, 1) := by decide +kernel
theorem d_T_init_47 : decode b_T_init 47 = .ok (.new 31, 3) := by decide +kernel
theorem d_T_init_50 : decode b_T_init 50 = .ok (.dup, 1) := by decide +kernel
theorem d_T_init_51 : decode b_T_init 51 = .ok (.invokespecial 33, 3) := by decide +kernel
theorem d_T_init_54 : decode b_T_init 54 = .ok (.putfield 34, 3) := by decide +kernel
theorem d_T_init_57 : decode b_T_init 57 = .ok (.aload_n 0, 1) := by decide +kernel
theorem d_T_init_58 : decode b_T_init 58 = .ok (.iconst 0, 1) := by decide +kernel
theorem d_T_init_59 : decode b_T_init 59 = .ok (.putfield 38, 3) := by decide +kernel
theorem d_T_init_62 : decode b_T_init 62 = .ok (.aload_n 0, 1) := by decide +kernel
theorem d_T_init_63 : decode b_T_init 63 = .ok (.iconst 0, 1) := by decide +kernel
theorem d_T_init_64 : decode b_T_init 64 = .ok (.putfield 42, 3) := by decide +kernel
theorem d_T_init_67 : decode b_T_init 67 = .ok (.aload_n 0, 1) := by decide +kernel
theorem d_T_init_68 : decode b_T_init 68 = .ok (.iconst 0, 1) := by decide +kernel
theorem d_T_init_69 : decode b_T_init 69 = .ok (.putfield 45, 3) := by decide +kernel
theorem d_T_init_72 : decode b_T_init 72 = .ok (.return_, 1) := by decide +kernel
theorem d_T_scan_0 : decode b_T_scan 0 = .ok (.aload_n 0, 1) := by decide +kernel
theorem d_T_scan_1 : decode b_T_scan 1 = .ok (.iconst 0, 1) := by decide +kernel
theorem d_T_scan_2 : decode b_T_scan 2 = .ok (.putfield 38, 3) := by decide +kernel
theorem d_T_scan_5 : decode b_T_scan 5 = .ok (.aload_n 0, 1) := by decide +kernel
theorem d_T_scan_6 : decode b_T_scan 6 = .ok (.iload_n 1, 1) := by decide +kernel
theorem d_T_scan_7 : decode b_T_scan 7 = .ok (.putfield 42, 3) := by decide +kernel
theorem d_T_scan_10 : decode b_T_scan 10 = .ok (.aload_n 0, 1) := by decide +kernel
theorem d_T_scan_11 : decode b_T_scan 11 = .ok (.iconst 0, 1) := by decide +kernel
theorem d_T_scan_12 : decode b_T_scan 12 = .ok (.putfield 45, 3) := by decide +kernel
theorem d_T_scan_15 : decode b_T_scan 15 = .ok (.iconst 0, 1) := by decide +kernel
theorem d_T_scan_16 : decode b_T_scan 16 = .ok (.istore_n 2, 1) := by decide +kernel
theorem d_T_scan_17 : decode b_T_scan 17 = .ok (.iload_n 2, 1) := by decide +kernel
theorem d_T_scan_18 : decode b_T_scan 18 = .ok (.sipush 401, 3) := by decide +kernel
theorem d_T_scan_21 : decode b_T_scan 21 = .ok (.if_icmp .ge 60, 3) := by decide +kernel
theorem d_T_scan_24 : decode b_T_scan 24 = .ok (.aload_n 0, 1) := by decide +kernel
theorem d_T_scan_25 : decode b_T_scan 25 = .ok (.invokevirtual 48, 3) := by decide +kernel
theorem d_T_scan_28 : decode b_T_scan 28 = .ok (.aload_n 0, 1) := by decide +kernel
theorem d_T_scan_29 : decode b_T_scan 29 = .ok (.getfield 45, 3) := by decide +kernel
theorem d_T_scan_32 : decode b_T_scan 32 = .ok (.aload_n 0, 1) := by decide +kernel
theorem d_T_scan_33 : decode b_T_scan 33 = .ok (.getfield 42, 3) := by decide +kernel
theorem d_T_scan_36 : decode b_T_scan 36 = .ok (.if_icmp .lt 17, 3) := by decide +kernel
theorem d_T_scan_39 : decode b_T_scan 39 = .ok (.aload_n 0, 1) := by decide +kernel
theorem d_T_scan_40 : decode b_T_scan 40 = .ok (.iconst 5, 1) := by decide +kernel
theorem d_T_scan_41 : decode b_T_scan 41 = .ok (.getstatic 51, 3) := by decide +kernel
theorem d_T_scan_44 : decode b_T_scan 44 = .ok (.iconst 0, 1) := by decide +kernel
theorem d_T_scan_45 : decode b_T_scan 45 = .ok (.aload_n 0, 1) := by decide +kernel
theorem d_T_scan_46 : decode b_T_scan 46 = .ok (.getfield 45, 3) := by decide +kernel
theorem d_T_scan_49 : decode b_T_scan 49 = .ok (.invokevirtual 55, 3) := by decide +kernel
theorem d_T_scan_52 : decode b_T_scan 52 = .ok (.return_, 1) := by decide +kernel
theorem d_T_scan_53 : decode b_T_scan 53 = .ok (.aload_n 0, 1) := by decide +kernel
theorem d_T_scan_54 : decode b_T_scan 54 = .ok (.invokevirtual 59, 3) := by decide +kernel
theorem d_T_scan_57 : decode b_T_scan 57 = .ok (.ifCond .ne 18, 3) := by decide +kernel
theorem d_T_scan_60 : decode b_T_scan 60 = .ok (.aload_n 0, 1) := by decide +kernel
theorem d_T_scan_61 : decode b_T_scan 61 = .ok (.bipush 6, 2) := by decide +kernel
theorem d_T_scan_63 : decode b_T_scan 63 = .ok (.getstatic 51, 3) := by decide +kernel
theorem d_T_scan_66 : decode b_T_scan 66 = .ok (.iconst 0, 1) := by decide +kernel
theorem d_T_scan_67 : decode b_T_scan 67 = .ok (.aload_n 0, 1) := by decide +kernel
theorem d_T_scan_68 : decode b_T_scan 68 = .ok (.getfield 45, 3) := by decide +kernel
theorem d_T_scan_71 : decode b_T_scan 71 = .ok (.invokevirtual 55, 3) := by decide +kernel
theorem d_T_scan_74 : decode b_T_scan 74 = .ok (.return_, 1) := by decide +kernel
theorem d_T_scan_75 : decode b_T_scan 75 = .ok (.iinc 2 1, 3) := by decide +kernel
theorem d_T_scan_78 : decode b_T_scan 78 = .ok (.goto (-61), 3) := by decide +kernel
theorem d_T_scan_81 : decode b_T_scan 81 = .ok (.return_, 1) := by decide +kernel
theorem d_T_scanNumber_0 : decode b_T_scanNumber 0 = .ok (.lconst 0, 1) := by decide +kernel
theorem d_T_scanNumber_1 : decode b_T_scanNumber 1 = .ok (.lstore_n 1, 1) := by decide +kernel
theorem d_T_scanNumber_2 : decode b_T_scanNumber 2 = .ok (.aload_n 0, 1) := by decide +kernel
theorem d_T_scanNumber_3 : decode b_T_scanNumber 3 = .ok (.getfield 45, 3) := by decide +kernel
theorem d_T_scanNumber_6 : decode b_T_scanNumber 6 = .ok (.istore_n 3, 1) := by decide +kernel
theorem d_T_scanNumber_7 : decode b_T_scanNumber 7 = .ok (.iload_n 3, 1) := by decide +kernel
theorem d_T_scanNumber_8 : decode b_T_scanNumber 8 = .ok (.aload_n 0, 1) := by decide +kernel
theorem d_T_scanNumber_9 : decode b_T_scanNumber 9 = .ok (.getfield 42, 3) := by decide +kernel
theorem d_T_scanNumber_12 : decode b_T_scanNumber 12 = .ok (.if_icmp .ge 43, 3) := by decide +kernel
theorem d_T_scanNumber_15 : decode b_T_scanNumber 15 = .ok (.aload_n 0, 1) := by decide +kernel
theorem d_T_scanNumber_16 : decode b_T_scanNumber 16 = .ok (.iload_n 3, 1) := by decide +kernel
theorem d_T_scanNumber_17 : decode b_T_scanNumber 17 = .ok (.invokevirtual 63, 3) := by decide +kernel
theorem d_T_scanNumber_20 : decode b_T_scanNumber 20 = .ok (.invokestatic 83, 3) := by decide +kernel
theorem d_T_scanNumber_23 : decode b_T_scanNumber 23 = .ok (.ifCond .eq 32, 3) := by decide +kernel
theorem d_T_scanNumber_26 : decode b_T_scanNumber 26 = .ok (.lload_n 1, 1) := by decide +kernel
theorem d_T_scanNumber_27 : decode b_T_scanNumber 27 = .ok (.ldc2_w 118, 3) := by decide +kernel
theorem d_T_scanNumber_30 : decode b_T_scanNumber 30 = .ok (.lmul, 1) := by decide +kernel
theorem d_T_scanNumber_31 : decode b_T_scanNumber 31 = .ok (.aload_n 0, 1) := by decide +kernel
theorem d_T_scanNumber_32 : decode b_T_scanNumber 32 = .ok (.iload_n 3, 1) := by decide +kernel
theorem d_T_scanNumber_33 : decode b_T_scanNumber 33 = .ok (.invokevirtual 63, 3) := by decide +kernel
theorem d_T_scanNumber_36 : decode b_T_scanNumber 36 = .ok (.i2l, 1) := by decide +kernel
theorem d_T_scanNumber_37 : decode b_T_scanNumber 37 = .ok (.ladd, 1) := by decide +kernel
theorem d_T_scanNumber_38 : decode b_T_scanNumber 38 = .ok (.ldc2_w 120, 3) := by decide +kernel
theorem d_T_scanNumber_41 : decode b_T_scanNumber 41 = .ok (.lsub, 1) := by decide +kernel
theorem d_T_scanNumber_42 : decode b_T_scanNumber 42 = .ok (.ldc2_w 122, 3) := by decide +kernel
theorem d_T_scanNumber_45 : decode b_T_scanNumber 45 = .ok (.invokestatic 124, 3) := by decide +kernel
theorem d_T_scanNumber_48 : decode b_T_scanNumber 48 = .ok (.lstore_n 1, 1) := by decide +kernel
theorem d_T_scanNumber_49 : decode b_T_scanNumber 49 = .ok (.iinc 3 1, 3) := by decide +kernel
theorem d_T_scanNumber_52 : decode b_T_scanNumber 52 = .ok (.goto (-45), 3) := by decide +kernel
theorem d_T_scanNumber_55 : decode b_T_scanNumber 55 = .ok (.aload_n 0, 1) := by decide +kernel
theorem d_T_scanNumber_56 : decode b_T_scanNumber 56 = .ok (.iload_n 3, 1) := by decide +kernel
theorem d_T_scanNumber_57 : decode b_T_scanNumber 57 = .ok (.invokevirtual 63, 3) := by decide +kernel
theorem d_T_scanNumber_60 : decode b_T_scanNumber 60 = .ok (.invokestatic 130, 3) := by decide +kernel
theorem d_T_scanNumber_63 : decode b_T_scanNumber 63 = .ok (.istore 4, 2) := by decide +kernel
theorem d_T_scanNumber_65 : decode b_T_scanNumber 65 = .ok (.iload 4, 2) := by decide +kernel
theorem d_T_scanNumber_67 : decode b_T_scanNumber 67 = .ok (.ifCond .le 6, 3) := by decide +kernel
theorem d_T_scanNumber_70 : decode b_T_scanNumber 70 = .ok (.iinc 3 1, 3) := by decide +kernel
theorem d_T_scanNumber_73 : decode b_T_scanNumber 73 = .ok (.lload_n 1, 1) := by decide +kernel
theorem d_T_scanNumber_74 : decode b_T_scanNumber 74 = .ok (.iload 4, 2) := by decide +kernel
theorem d_T_scanNumber_76 : decode b_T_scanNumber 76 = .ok (.lshl, 1) := by decide +kernel
theorem d_T_scanNumber_77 : decode b_T_scanNumber 77 = .ok (.ldc2_w 133, 3) := by decide +kernel
theorem d_T_scanNumber_80 : decode b_T_scanNumber 80 = .ok (.lcmp, 1) := by decide +kernel
theorem d_T_scanNumber_81 : decode b_T_scanNumber 81 = .ok (.ifCond .gt 14, 3) := by decide +kernel
theorem d_T_scanNumber_84 : decode b_T_scanNumber 84 = .ok (.aload_n 0, 1) := by decide +kernel
theorem d_T_scanNumber_85 : decode b_T_scanNumber 85 = .ok (.iload_n 3, 1) := by decide +kernel
theorem d_T_scanNumber_86 : decode b_T_scanNumber 86 = .ok (.invokevirtual 63, 3) := by decide +kernel
theorem d_T_scanNumber_89 : decode b_T_scanNumber 89 = .ok (.invokestatic 99, 3) := by decide +kernel
theorem d_T_scanNumber_92 : decode b_T_scanNumber 92 = .ok (.ifCond .eq 5, 3) := by decide +kernel
theorem d_T_scanNumber_95 : decode b_T_scanNumber 95 = .ok (.iconst 0, 1) := by decide +kernel
theorem d_T_scanNumber_96 : decode b_T_scanNumber 96 = .ok (.ireturn, 1) := by decide +kernel
theorem d_T_scanNumber_97 : decode b_T_scanNumber 97 = .ok (.aload_n 0, 1) := by decide +kernel
theorem d_T_scanNumber_98 : decode b_T_scanNumber 98 = .ok (.iconst 3, 1) := by decide +kernel
theorem d_T_scanNumber_99 : decode b_T_scanNumber 99 = .ok (.getstatic 51, 3) := by decide +kernel
theorem d_T_scanNumber_102 : decode b_T_scanNumber 102 = .ok (.iconst 0, 1) := by decide +kernel
theorem d_T_scanNumber_103 : decode b_T_scanNumber 103 = .ok (.iload_n 3, 1) := by decide +kernel
theorem d_T_scanNumber_104 : decode b_T_scanNumber 104 = .ok (.invokevirtual 55, 3) := by decide +kernel
theorem d_T_scanNumber_107 : decode b_T_scanNumber 107 = .ok (.iconst 1, 1) := by decide +kernel
theorem d_T_scanNumber_108 : decode b_T_scanNumber 108 = .ok (.ireturn, 1) := by decide +kernel
theorem d_T_scanQuoted_0 : decode b_T_scanQuoted 0 = .ok (.aload_n 0, 1) := by decide +kernel
theorem d_T_scanQuoted_1 : decode b_T_scanQuoted 1 = .ok (.getfield 34, 3) := by decide +kernel
theorem d_T_scanQuoted_4 : decode b_T_scanQuoted 4 = .ok (.invokevirtual 135, 3) := by decide +kernel
theorem d_T_scanQuoted_7 : decode b_T_scanQuoted 7 = .ok (.aload_n 0, 1) := by decide +kernel
theorem d_T_scanQuoted_8 : decode b_T_scanQuoted 8 = .ok (.getfield 45, 3) := by decide +kernel
theorem d_T_scanQuoted_11 : decode b_T_scanQuoted 11 = .ok (.iconst 1, 1) := by decide +kernel
theorem d_T_scanQuoted_12 : decode b_T_scanQuoted 12 = .ok (.iadd, 1) := by decide +kernel
theorem d_T_scanQuoted_13 : decode b_T_scanQuoted 13 = .ok (.istore_n 1, 1) := by decide +kernel
theorem d_T_scanQuoted_14 : decode b_T_scanQuoted 14 = .ok (.iload_n 1, 1) := by decide +kernel
theorem d_T_scanQuoted_15 : decode b_T_scanQuoted 15 = .ok (.aload_n 0, 1) := by decide +kernel
theorem d_T_scanQuoted_16 : decode b_T_scanQuoted 16 = .ok (.getfield 42, 3) := by decide +kernel
theorem d_T_scanQuoted_19 : decode b_T_scanQuoted 19 = .ok (.if_icmp .ge 73, 3) := by decide +kernel
theorem d_T_scanQuoted_22 : decode b_T_scanQuoted 22 = .ok (.aload_n 0, 1) := by decide +kernel
theorem d_T_scanQuoted_23 : decode b_T_scanQuoted 23 = .ok (.iload_n 1, 1) := by decide +kernel
theorem d_T_scanQuoted_24 : decode b_T_scanQuoted 24 = .ok (.invokevirtual 63, 3) := by decide +kernel
theorem d_T_scanQuoted_27 : decode b_T_scanQuoted 27 = .ok (.istore_n 2, 1) := by decide +kernel
theorem d_T_scanQuoted_28 : decode b_T_scanQuoted 28 = .ok (.iload_n 2, 1) := by decide +kernel
theorem d_T_scanQuoted_29 : decode b_T_scanQuoted 29 = .ok (.bipush 34, 2) := by decide +kernel
theorem d_T_scanQuoted_31 : decode b_T_scanQuoted 31 = .ok (.if_icmp .ne 23, 3) := by decide +kernel
theorem d_T_scanQuoted_34 : decode b_T_scanQuoted 34 = .ok (.aload_n 0, 1) := by decide +kernel
theorem d_T_scanQuoted_35 : decode b_T_scanQuoted 35 = .ok (.iconst 4, 1) := by decide +kernel
theorem d_T_scanQuoted_36 : decode b_T_scanQuoted 36 = .ok (.getstatic 51, 3) := by decide +kernel
theorem d_T_scanQuoted_39 : decode b_T_scanQuoted 39 = .ok (.aload_n 0, 1) := by decide +kernel
theorem d_T_scanQuoted_40 : decode b_T_scanQuoted 40 = .ok (.getfield 34, 3) := by decide +kernel
theorem d_T_scanQuoted_43 : decode b_T_scanQuoted 43 = .ok (.invokevirtual 138, 3) := by decide +kernel
theorem d_T_scanQuoted_46 : decode b_T_scanQuoted 46 = .ok (.iload_n 1, 1) := by decide +kernel
theorem d_T_scanQuoted_47 : decode b_T_scanQuoted 47 = .ok (.iconst 1, 1) := by decide +kernel
theorem d_T_scanQuoted_48 : decode b_T_scanQuoted 48 = .ok (.iadd, 1) := by decide +kernel
theorem d_T_scanQuoted_49 : decode b_T_scanQuoted 49 = .ok (.invokevirtual 55, 3) := by decide +kernel
theorem d_T_scanQuoted_52 : decode b_T_scanQuoted 52 = .ok (.iconst 1, 1) := by decide +kernel
theorem d_T_scanQuoted_53 : decode b_T_scanQuoted 53 = .ok (.ireturn, 1) := by decide +kernel
theorem d_T_scanQuoted_54 : decode b_T_scanQuoted 54 = .ok (.iload_n 2, 1) := by decide +kernel
theorem d_T_scanQuoted_55 : decode b_T_scanQuoted 55 = .ok (.bipush 92, 2) := by decide +kernel
theorem d_T_scanQuoted_57 : decode b_T_scanQuoted 57 = .ok (.if_icmp .ne 12, 3) := by decide +kernel
theorem d_T_scanQuoted_60 : decode b_T_scanQuoted 60 = .ok (.iinc 1 1, 3) := by decide +kernel
theorem d_T_scanQuoted_63 : decode b_T_scanQuoted 63 = .ok (.aload_n 0, 1) := by decide +kernel
theorem d_T_scanQuoted_64 : decode b_T_scanQuoted 64 = .ok (.iload_n 1, 1) := by decide +kernel
theorem d_T_scanQuoted_65 : decode b_T_scanQuoted 65 = .ok (.invokevirtual 63, 3) := by decide +kernel
theorem d_T_scanQuoted_68 : decode b_T_scanQuoted 68 = .ok (.istore_n 2, 1) := by decide +kernel
theorem d_T_scanQuoted_69 : decode b_T_scanQuoted 69 = .ok (.iload_n 2, 1) := by decide +kernel
theorem d_T_scanQuoted_70 : decode b_T_scanQuoted 70 = .ok (.ifCond .lt 14, 3) := by decide +kernel
theorem d_T_scanQuoted_73 : decode b_T_scanQuoted 73 = .ok (.aload_n 0, 1) := by decide +kernel
theorem d_T_scanQuoted_74 : decode b_T_scanQuoted 74 = .ok (.getfield 34, 3) := by decide +kernel
theorem d_T_scanQuoted_77 : decode b_T_scanQuoted 77 = .ok (.iload_n 2, 1) := by decide +kernel
theorem d_T_scanQuoted_78 : decode b_T_scanQuoted 78 = .ok (.invokevirtual 141, 3) := by decide +kernel
theorem d_T_scanQuoted_81 : decode b_T_scanQuoted 81 = .ok (.ifCond .ne 5, 3) := by decide +kernel
theorem d_T_scanQuoted_84 : decode b_T_scanQuoted 84 = .ok (.iconst 0, 1) := by decide +kernel
theorem d_T_scanQuoted_85 : decode b_T_scanQuoted 85 = .ok (.ireturn, 1) := by decide +kernel
theorem d_T_scanQuoted_86 : decode b_T_scanQuoted 86 = .ok (.iinc 1 1, 3) := by decide +kernel
theorem d_T_scanQuoted_89 : decode b_T_scanQuoted 89 = .ok (.goto (-75), 3) := by decide +kernel
theorem d_T_scanQuoted_92 : decode b_T_scanQuoted 92 = .ok (.iconst 0, 1) := by decide +kernel
theorem d_T_scanQuoted_93 : decode b_T_scanQuoted 93 = .ok (.ireturn, 1) := by decide +kernel
theorem d_T_scanTag_0 : decode b_T_scanTag 0 = .ok (.aload_n 0, 1) := by decide +kernel
theorem d_T_scanTag_1 : decode b_T_scanTag 1 = .ok (.aload_n 0, 1) := by decide +kernel
theorem d_T_scanTag_2 : decode b_T_scanTag 2 = .ok (.getfield 45, 3) := by decide +kernel
theorem d_T_scanTag_5 : decode b_T_scanTag 5 = .ok (.iconst 1, 1) := by decide +kernel
theorem d_T_scanTag_6 : decode b_T_scanTag 6 = .ok (.iadd, 1) := by decide +kernel
theorem d_T_scanTag_7 : decode b_T_scanTag 7 = .ok (.invokevirtual 63, 3) := by decide +kernel
theorem d_T_scanTag_10 : decode b_T_scanTag 10 = .ok (.invokestatic 73, 3) := by decide +kernel
theorem d_T_scanTag_13 : decode b_T_scanTag 13 = .ok (.ifCond .ne 5, 3) := by decide +kernel
theorem d_T_scanTag_16 : decode b_T_scanTag 16 = .ok (.iconst 0, 1) := by decide +kernel
theorem d_T_scanTag_17 : decode b_T_scanTag 17 = .ok (.ireturn, 1) := by decide +kernel
theorem d_T_scanTag_18 : decode b_T_scanTag 18 = .ok (.aload_n 0, 1) := by decide +kernel
theorem d_T_scanTag_19 : decode b_T_scanTag 19 = .ok (.aload_n 0, 1) := by decide +kernel
theorem d_T_scanTag_20 : decode b_T_scanTag 20 = .ok (.getfield 45, 3) := by decide +kernel
theorem d_T_scanTag_23 : decode b_T_scanTag 23 = .ok (.iconst 1, 1) := by decide +kernel
theorem d_T_scanTag_24 : decode b_T_scanTag 24 = .ok (.iadd, 1) := by decide +kernel
theorem d_T_scanTag_25 : decode b_T_scanTag 25 = .ok (.invokevirtual 102, 3) := by decide +kernel
theorem d_T_scanTag_28 : decode b_T_scanTag 28 = .ok (.istore_n 1, 1) := by decide +kernel
theorem d_T_scanTag_29 : decode b_T_scanTag 29 = .ok (.aload_n 0, 1) := by decide +kernel
theorem d_T_scanTag_30 : decode b_T_scanTag 30 = .ok (.iconst 2, 1) := by decide +kernel
theorem d_T_scanTag_31 : decode b_T_scanTag 31 = .ok (.aload_n 0, 1) := by decide +kernel
theorem d_T_scanTag_32 : decode b_T_scanTag 32 = .ok (.getfield 9, 3) := by decide +kernel
theorem d_T_scanTag_35 : decode b_T_scanTag 35 = .ok (.aload_n 0, 1) := by decide +kernel
theorem d_T_scanTag_36 : decode b_T_scanTag 36 = .ok (.getfield 45, 3) := by decide +kernel
theorem d_T_scanTag_39 : decode b_T_scanTag 39 = .ok (.iconst 1, 1) := by decide +kernel
theorem d_T_scanTag_40 : decode b_T_scanTag 40 = .ok (.iadd, 1) := by decide +kernel
theorem d_T_scanTag_41 : decode b_T_scanTag 41 = .ok (.iload_n 1, 1) := by decide +kernel
theorem d_T_scanTag_42 : decode b_T_scanTag 42 = .ok (.invokestatic 114, 3) := by decide +kernel
theorem d_T_scanTag_45 : decode b_T_scanTag 45 = .ok (.iconst 0, 1) := by decide +kernel
theorem d_T_scanTag_46 : decode b_T_scanTag 46 = .ok (.iload_n 1, 1) := by decide +kernel
theorem d_T_scanTag_47 : decode b_T_scanTag 47 = .ok (.invokevirtual 55, 3) := by decide +kernel
theorem d_T_scanTag_50 : decode b_T_scanTag 50 = .ok (.iconst 1, 1) := by decide +kernel
theorem d_T_scanTag_51 : decode b_T_scanTag 51 = .ok (.ireturn, 1) := by decide +kernel
theorem d_T_scanText_0 : decode b_T_scanText 0 = .ok (.iload_n 1, 1) := by decide +kernel
theorem d_T_scanText_1 : decode b_T_scanText 1 = .ok (.istore_n 2, 1) := by decide +kernel
theorem d_T_scanText_2 : decode b_T_scanText 2 = .ok (.iload_n 2, 1) := by decide +kernel
theorem d_T_scanText_3 : decode b_T_scanText 3 = .ok (.aload_n 0, 1) := by decide +kernel
theorem d_T_scanText_4 : decode b_T_scanText 4 = .ok (.getfield 42, 3) := by decide +kernel
theorem d_T_scanText_7 : decode b_T_scanText 7 = .ok (.if_icmp .ge 29, 3) := by decide +kernel
theorem d_T_scanText_10 : decode b_T_scanText 10 = .ok (.aload_n 0, 1) := by decide +kernel
theorem d_T_scanText_11 : decode b_T_scanText 11 = .ok (.iload_n 2, 1) := by decide +kernel
theorem d_T_scanText_12 : decode b_T_scanText 12 = .ok (.invokevirtual 63, 3) := by decide +kernel
theorem d_T_scanText_15 : decode b_T_scanText 15 = .ok (.bipush 32, 2) := by decide +kernel
theorem d_T_scanText_17 : decode b_T_scanText 17 = .ok (.if_icmp .eq 13, 3) := by decide +kernel
theorem d_T_scanText_20 : decode b_T_scanText 20 = .ok (.aload_n 0, 1) := by decide +kernel
theorem d_T_scanText_21 : decode b_T_scanText 21 = .ok (.iload_n 2, 1) := by decide +kernel
theorem d_T_scanText_22 : decode b_T_scanText 22 = .ok (.invokevirtual 63, 3) := by decide +kernel
theorem d_T_scanText_25 : decode b_T_scanText 25 = .ok (.bipush 9, 2) := by decide +kernel
theorem d_T_scanText_27 : decode b_T_scanText 27 = .ok (.if_icmp .ne 9, 3) := by decide +kernel
theorem d_T_scanText_30 : decode b_T_scanText 30 = .ok (.iinc 2 1, 3) := by decide +kernel
theorem d_T_scanText_33 : decode b_T_scanText 33 = .ok (.goto (-31), 3) := by decide +kernel
theorem d_T_scanText_36 : decode b_T_scanText 36 = .ok (.aload_n 0, 1) := by decide +kernel
theorem d_T_scanText_37 : decode b_T_scanText 37 = .ok (.iload_n 2, 1) := by decide +kernel
theorem d_T_scanText_38 : decode b_T_scanText 38 = .ok (.invokevirtual 143, 3) := by decide +kernel
theorem d_T_scanText_41 : decode b_T_scanText 41 = .ok (.istore_n 3, 1) := by decide +kernel
theorem d_T_scanText_42 : decode b_T_scanText 42 = .ok (.iconst 0, 1) := by decide +kernel
theorem d_T_scanText_43 : decode b_T_scanText 43 = .ok (.istore 4, 2) := by decide +kernel
theorem d_T_scanText_45 : decode b_T_scanText 45 = .ok (.iload 4, 2) := by decide +kernel
theorem d_T_scanText_47 : decode b_T_scanText 47 = .ok (.sipush 400, 3) := by decide +kernel
theorem d_T_scanText_50 : decode b_T_scanText 50 = .ok (.if_icmp .ge 62, 3) := by decide +kernel
theorem d_T_scanText_53 : decode b_T_scanText 53 = .ok (.iload_n 3, 1) := by decide +kernel
theorem d_T_scanText_54 : decode b_T_scanText 54 = .ok (.ifCond .lt 58, 3) := by decide +kernel
theorem d_T_scanText_57 : decode b_T_scanText 57 = .ok (.aload_n 0, 1) := by decide +kernel
theorem d_T_scanText_58 : decode b_T_scanText 58 = .ok (.iload_n 3, 1) := by decide +kernel
theorem d_T_scanText_59 : decode b_T_scanText 59 = .ok (.invokevirtual 63, 3) := by decide +kernel
theorem d_T_scanText_62 : decode b_T_scanText 62 = .ok (.bipush 46, 2) := by decide +kernel
theorem d_T_scanText_64 : decode b_T_scanText 64 = .ok (.if_icmp .ne 13, 3) := by decide +kernel
theorem d_T_scanText_67 : decode b_T_scanText 67 = .ok (.aload_n 0, 1) := by decide +kernel
theorem d_T_scanText_68 : decode b_T_scanText 68 = .ok (.iload_n 3, 1) := by decide +kernel
theorem d_T_scanText_69 : decode b_T_scanText 69 = .ok (.iconst 1, 1) := by decide +kernel
theorem d_T_scanText_70 : decode b_T_scanText 70 = .ok (.iadd, 1) := by decide +kernel
theorem d_T_scanText_71 : decode b_T_scanText 71 = .ok (.invokevirtual 143, 3) := by decide +kernel
theorem d_T_scanText_74 : decode b_T_scanText 74 = .ok (.goto 4, 3) := by decide +kernel
theorem d_T_scanText_77 : decode b_T_scanText 77 = .ok (.iconst (-1), 1) := by decide +kernel
theorem d_T_scanText_78 : decode b_T_scanText 78 = .ok (.istore 5, 2) := by decide +kernel
theorem d_T_scanText_80 : decode b_T_scanText 80 = .ok (.iload 5, 2) := by decide +kernel
theorem d_T_scanText_82 : decode b_T_scanText 82 = .ok (.ifCond .lt 18, 3) := by decide +kernel
theorem d_T_scanText_85 : decode b_T_scanText 85 = .ok (.aload_n 0, 1) := by decide +kernel
theorem d_T_scanText_86 : decode b_T_scanText 86 = .ok (.iconst 4, 1) := by decide +kernel
theorem d_T_scanText_87 : decode b_T_scanText 87 = .ok (.getstatic 51, 3) := by decide +kernel
theorem d_T_scanText_90 : decode b_T_scanText 90 = .ok (.sipush 256, 3) := by decide +kernel
theorem d_T_scanText_93 : decode b_T_scanText 93 = .ok (.iload 5, 2) := by decide +kernel
theorem d_T_scanText_95 : decode b_T_scanText 95 = .ok (.invokevirtual 55, 3) := by decide +kernel
theorem d_T_scanText_98 : decode b_T_scanText 98 = .ok (.iconst 1, 1) := by decide +kernel
theorem d_T_scanText_99 : decode b_T_scanText 99 = .ok (.ireturn, 1) := by decide +kernel
theorem d_T_scanText_100 : decode b_T_scanText 100 = .ok (.aload_n 0, 1) := by decide +kernel
theorem d_T_scanText_101 : decode b_T_scanText 101 = .ok (.iload_n 3, 1) := by decide +kernel
theorem d_T_scanText_102 : decode b_T_scanText 102 = .ok (.invokevirtual 67, 3) := by decide +kernel
theorem d_T_scanText_105 : decode b_T_scanText 105 = .ok (.istore_n 3, 1) := by decide +kernel
theorem d_T_scanText_106 : decode b_T_scanText 106 = .ok (.iinc 4 1, 3) := by decide +kernel
theorem d_T_scanText_109 : decode b_T_scanText 109 = .ok (.goto (-64), 3) := by decide +kernel
theorem d_T_scanText_112 : decode b_T_scanText 112 = .ok (.iconst 0, 1) := by decide +kernel
theorem d_T_scanText_113 : decode b_T_scanText 113 = .ok (.ireturn, 1) := by decide +kernel
theorem d_T_scanToken_0 : decode b_T_scanToken 0 = .ok (.aload_n 0, 1) := by decide +kernel
theorem d_T_scanToken_1 : decode b_T_scanToken 1 = .ok (.aload_n 0, 1) := by decide +kernel
theorem d_T_scanToken_2 : decode b_T_scanToken 2 = .ok (.getfield 45, 3) := by decide +kernel
theorem d_T_scanToken_5 : decode b_T_scanToken 5 = .ok (.invokevirtual 63, 3) := by decide +kernel
theorem d_T_scanToken_8 : decode b_T_scanToken 8 = .ok (.istore_n 1, 1) := by decide +kernel
theorem d_T_scanToken_9 : decode b_T_scanToken 9 = .ok (.iload_n 1, 1) := by decide +kernel
theorem d_T_scanToken_10 : decode b_T_scanToken 10 = .ok (.invokestatic 73, 3) := by decide +kernel
theorem d_T_scanToken_13 : decode b_T_scanToken 13 = .ok (.ifCond .eq 8, 3) := by decide +kernel
theorem d_T_scanToken_16 : decode b_T_scanToken 16 = .ok (.aload_n 0, 1) := by decide +kernel
theorem d_T_scanToken_17 : decode b_T_scanToken 17 = .ok (.invokevirtual 77, 3) := by decide +kernel
theorem d_T_scanToken_20 : decode b_T_scanToken 20 = .ok (.ireturn, 1) := by decide +kernel
theorem d_T_scanToken_21 : decode b_T_scanToken 21 = .ok (.iload_n 1, 1) := by decide +kernel
theorem d_T_scanToken_22 : decode b_T_scanToken 22 = .ok (.bipush 58, 2) := by decide +kernel
theorem d_T_scanToken_24 : decode b_T_scanToken 24 = .ok (.if_icmp .ne 8, 3) := by decide +kernel
theorem d_T_scanToken_27 : decode b_T_scanToken 27 = .ok (.aload_n 0, 1) := by decide +kernel
theorem d_T_scanToken_28 : decode b_T_scanToken 28 = .ok (.invokevirtual 80, 3) := by decide +kernel
theorem d_T_scanToken_31 : decode b_T_scanToken 31 = .ok (.ireturn, 1) := by decide +kernel
theorem d_T_scanToken_32 : decode b_T_scanToken 32 = .ok (.iload_n 1, 1) := by decide +kernel
theorem d_T_scanToken_33 : decode b_T_scanToken 33 = .ok (.invokestatic 83, 3) := by decide +kernel
theorem d_T_scanToken_36 : decode b_T_scanToken 36 = .ok (.ifCond .eq 8, 3) := by decide +kernel
theorem d_T_scanToken_39 : decode b_T_scanToken 39 = .ok (.aload_n 0, 1) := by decide +kernel
theorem d_T_scanToken_40 : decode b_T_scanToken 40 = .ok (.invokevirtual 86, 3) := by decide +kernel
theorem d_T_scanToken_43 : decode b_T_scanToken 43 = .ok (.ireturn, 1) := by decide +kernel
theorem d_T_scanToken_44 : decode b_T_scanToken 44 = .ok (.iload_n 1, 1) := by decide +kernel
theorem d_T_scanToken_45 : decode b_T_scanToken 45 = .ok (.bipush 34, 2) := by decide +kernel
theorem d_T_scanToken_47 : decode b_T_scanToken 47 = .ok (.if_icmp .ne 8, 3) := by decide +kernel
theorem d_T_scanToken_50 : decode b_T_scanToken 50 = .ok (.aload_n 0, 1) := by decide +kernel
theorem d_T_scanToken_51 : decode b_T_scanToken 51 = .ok (.invokevirtual 89, 3) := by decide +kernel
theorem d_T_scanToken_54 : decode b_T_scanToken 54 = .ok (.ireturn, 1) := by decide +kernel
theorem d_T_scanToken_55 : decode b_T_scanToken 55 = .ok (.iload_n 1, 1) := by decide +kernel
theorem d_T_scanToken_56 : decode b_T_scanToken 56 = .ok (.ifCond .lt 13, 3) := by decide +kernel
theorem d_T_scanToken_59 : decode b_T_scanToken 59 = .ok (.ldc 92, 2) := by decide +kernel
theorem d_T_scanToken_61 : decode b_T_scanToken 61 = .ok (.iload_n 1, 1) := by decide +kernel
theorem d_T_scanToken_62 : decode b_T_scanToken 62 = .ok (.i2c, 1) := by decide +kernel
theorem d_T_scanToken_63 : decode b_T_scanToken 63 = .ok (.invokevirtual 94, 3) := by decide +kernel
theorem d_T_scanToken_66 : decode b_T_scanToken 66 = .ok (.ifCond .ge 5, 3) := by decide +kernel
theorem d_T_scanToken_69 : decode b_T_scanToken 69 = .ok (.iconst 0, 1) := by decide +kernel
theorem d_T_scanToken_70 : decode b_T_scanToken 70 = .ok (.ireturn, 1) := by decide +kernel
theorem d_T_scanToken_71 : decode b_T_scanToken 71 = .ok (.aload_n 0, 1) := by decide +kernel
theorem d_T_scanToken_72 : decode b_T_scanToken 72 = .ok (.iload_n 1, 1) := by decide +kernel
theorem d_T_scanToken_73 : decode b_T_scanToken 73 = .ok (.getstatic 51, 3) := by decide +kernel
theorem d_T_scanToken_76 : decode b_T_scanToken 76 = .ok (.iconst 0, 1) := by decide +kernel
theorem d_T_scanToken_77 : decode b_T_scanToken 77 = .ok (.aload_n 0, 1) := by decide +kernel
theorem d_T_scanToken_78 : decode b_T_scanToken 78 = .ok (.getfield 45, 3) := by decide +kernel
theorem d_T_scanToken_81 : decode b_T_scanToken 81 = .ok (.iconst 1, 1) := by decide +kernel
theorem d_T_scanToken_82 : decode b_T_scanToken 82 = .ok (.iadd, 1) := by decide +kernel
theorem d_T_scanToken_83 : decode b_T_scanToken 83 = .ok (.invokevirtual 55, 3) := by decide +kernel
theorem d_T_scanToken_86 : decode b_T_scanToken 86 = .ok (.iconst 1, 1) := by decide +kernel
theorem d_T_scanToken_87 : decode b_T_scanToken 87 = .ok (.ireturn, 1) := by decide +kernel
theorem d_T_scanWord_0 : decode b_T_scanWord 0 = .ok (.aload_n 0, 1) := by decide +kernel
theorem d_T_scanWord_1 : decode b_T_scanWord 1 = .ok (.aload_n 0, 1) := by decide +kernel
theorem d_T_scanWord_2 : decode b_T_scanWord 2 = .ok (.getfield 45, 3) := by decide +kernel
theorem d_T_scanWord_5 : decode b_T_scanWord 5 = .ok (.invokevirtual 102, 3) := by decide +kernel
theorem d_T_scanWord_8 : decode b_T_scanWord 8 = .ok (.istore_n 1, 1) := by decide +kernel
theorem d_T_scanWord_9 : decode b_T_scanWord 9 = .ok (.aload_n 0, 1) := by decide +kernel
theorem d_T_scanWord_10 : decode b_T_scanWord 10 = .ok (.iload_n 1, 1) := by decide +kernel
theorem d_T_scanWord_11 : decode b_T_scanWord 11 = .ok (.invokevirtual 63, 3) := by decide +kernel
theorem d_T_scanWord_14 : decode b_T_scanWord 14 = .ok (.bipush 58, 2) := by decide +kernel
theorem d_T_scanWord_16 : decode b_T_scanWord 16 = .ok (.if_icmp .ne 28, 3) := by decide +kernel
theorem d_T_scanWord_19 : decode b_T_scanWord 19 = .ok (.aload_n 0, 1) := by decide +kernel
theorem d_T_scanWord_20 : decode b_T_scanWord 20 = .ok (.getfield 9, 3) := by decide +kernel
theorem d_T_scanWord_23 : decode b_T_scanWord 23 = .ok (.aload_n 0, 1) := by decide +kernel
theorem d_T_scanWord_24 : decode b_T_scanWord 24 = .ok (.getfield 45, 3) := by decide +kernel
theorem d_T_scanWord_27 : decode b_T_scanWord 27 = .ok (.iload_n 1, 1) := by decide +kernel
theorem d_T_scanWord_28 : decode b_T_scanWord 28 = .ok (.ldc 105, 2) := by decide +kernel
theorem d_T_scanWord_30 : decode b_T_scanWord 30 = .ok (.invokestatic 107, 3) := by decide +kernel
theorem d_T_scanWord_33 : decode b_T_scanWord 33 = .ok (.ifCond .eq 11, 3) := by decide +kernel
theorem d_T_scanWord_36 : decode b_T_scanWord 36 = .ok (.aload_n 0, 1) := by decide +kernel
theorem d_T_scanWord_37 : decode b_T_scanWord 37 = .ok (.iload_n 1, 1) := by decide +kernel
theorem d_T_scanWord_38 : decode b_T_scanWord 38 = .ok (.iconst 1, 1) := by decide +kernel
theorem d_T_scanWord_39 : decode b_T_scanWord 39 = .ok (.iadd, 1) := by decide +kernel
theorem d_T_scanWord_40 : decode b_T_scanWord 40 = .ok (.invokevirtual 111, 3) := by decide +kernel
theorem d_T_scanWord_43 : decode b_T_scanWord 43 = .ok (.ireturn, 1) := by decide +kernel
theorem d_T_scanWord_44 : decode b_T_scanWord 44 = .ok (.aload_n 0, 1) := by decide +kernel
theorem d_T_scanWord_45 : decode b_T_scanWord 45 = .ok (.iconst 1, 1) := by decide +kernel
theorem d_T_scanWord_46 : decode b_T_scanWord 46 = .ok (.aload_n 0, 1) := by decide +kernel
theorem d_T_scanWord_47 : decode b_T_scanWord 47 = .ok (.getfield 9, 3) := by decide +kernel
theorem d_T_scanWord_50 : decode b_T_scanWord 50 = .ok (.aload_n 0, 1) := by decide +kernel
theorem d_T_scanWord_51 : decode b_T_scanWord 51 = .ok (.getfield 45, 3) := by decide +kernel
theorem d_T_scanWord_54 : decode b_T_scanWord 54 = .ok (.iload_n 1, 1) := by decide +kernel
theorem d_T_scanWord_55 : decode b_T_scanWord 55 = .ok (.invokestatic 114, 3) := by decide +kernel
theorem d_T_scanWord_58 : decode b_T_scanWord 58 = .ok (.iconst 0, 1) := by decide +kernel
theorem d_T_scanWord_59 : decode b_T_scanWord 59 = .ok (.iload_n 1, 1) := by decide +kernel
theorem d_T_scanWord_60 : decode b_T_scanWord 60 = .ok (.invokevirtual 55, 3) := by decide +kernel
theorem d_T_scanWord_63 : decode b_T_scanWord 63 = .ok (.iconst 1, 1) := by decide +kernel
theorem d_T_scanWord_64 : decode b_T_scanWord 64 = .ok (.ireturn, 1) := by decide +kernel
theorem d_T_shiftOf_0 : decode b_T_shiftOf 0 = .ok (.iload_n 0, 1) := by decide +kernel
theorem d_T_shiftOf_1 : decode b_T_shiftOf 1 = .ok (.lookupswitch 68 #[(71, 65), (75, 59), (77, 62), (103, 65), (107, 59), (109, 62)], 59) := by decide +kernel
theorem d_T_shiftOf_60 : decode b_T_shiftOf 60 = .ok (.bipush 10, 2) := by decide +kernel
theorem d_T_shiftOf_62 : decode b_T_shiftOf 62 = .ok (.ireturn, 1) := by decide +kernel
theorem d_T_shiftOf_63 : decode b_T_shiftOf 63 = .ok (.bipush 20, 2) := by decide +kernel
theorem d_T_shiftOf_65 : decode b_T_shiftOf 65 = .ok (.ireturn, 1) := by decide +kernel
theorem d_T_shiftOf_66 : decode b_T_shiftOf 66 = .ok (.bipush 30, 2) := by decide +kernel
theorem d_T_shiftOf_68 : decode b_T_shiftOf 68 = .ok (.ireturn, 1) := by decide +kernel
theorem d_T_shiftOf_69 : decode b_T_shiftOf 69 = .ok (.iconst 0, 1) := by decide +kernel
theorem d_T_shiftOf_70 : decode b_T_shiftOf 70 = .ok (.ireturn, 1) := by decide +kernel
theorem d_T_skipGap_0 : decode b_T_skipGap 0 = .ok (.iconst 0, 1) := by decide +kernel
theorem d_T_skipGap_1 : decode b_T_skipGap 1 = .ok (.istore_n 1, 1) := by decide +kernel
theorem d_T_skipGap_2 : decode b_T_skipGap 2 = .ok (.iload_n 1, 1) := by decide +kernel
theorem d_T_skipGap_3 : decode b_T_skipGap 3 = .ok (.sipush 400, 3) := by decide +kernel
theorem d_T_skipGap_6 : decode b_T_skipGap 6 = .ok (.if_icmp .ge 146, 3) := by decide +kernel
theorem d_T_skipGap_9 : decode b_T_skipGap 9 = .ok (.aload_n 0, 1) := by decide +kernel
theorem d_T_skipGap_10 : decode b_T_skipGap 10 = .ok (.getfield 45, 3) := by decide +kernel
theorem d_T_skipGap_13 : decode b_T_skipGap 13 = .ok (.aload_n 0, 1) := by decide +kernel
theorem d_T_skipGap_14 : decode b_T_skipGap 14 = .ok (.getfield 42, 3) := by decide +kernel
theorem d_T_skipGap_17 : decode b_T_skipGap 17 = .ok (.if_icmp .ge 135, 3) := by decide +kernel
theorem d_T_skipGap_20 : decode b_T_skipGap 20 = .ok (.aload_n 0, 1) := by decide +kernel
theorem d_T_skipGap_21 : decode b_T_skipGap 21 = .ok (.aload_n 0, 1) := by decide +kernel
theorem d_T_skipGap_22 : decode b_T_skipGap 22 = .ok (.getfield 45, 3) := by decide +kernel
theorem d_T_skipGap_25 : decode b_T_skipGap 25 = .ok (.invokevirtual 63, 3) := by decide +kernel
theorem d_T_skipGap_28 : decode b_T_skipGap 28 = .ok (.istore_n 2, 1) := by decide +kernel
theorem d_T_skipGap_29 : decode b_T_skipGap 29 = .ok (.iload_n 2, 1) := by decide +kernel
theorem d_T_skipGap_30 : decode b_T_skipGap 30 = .ok (.bipush 32, 2) := by decide +kernel
theorem d_T_skipGap_32 : decode b_T_skipGap 32 = .ok (.if_icmp .eq 21, 3) := by decide +kernel
theorem d_T_skipGap_35 : decode b_T_skipGap 35 = .ok (.iload_n 2, 1) := by decide +kernel
theorem d_T_skipGap_36 : decode b_T_skipGap 36 = .ok (.bipush 9, 2) := by decide +kernel
theorem d_T_skipGap_38 : decode b_T_skipGap 38 = .ok (.if_icmp .eq 15, 3) := by decide +kernel
theorem d_T_skipGap_41 : decode b_T_skipGap 41 = .ok (.iload_n 2, 1) := by decide +kernel
theorem d_T_skipGap_42 : decode b_T_skipGap 42 = .ok (.bipush 10, 2) := by decide +kernel
theorem d_T_skipGap_44 : decode b_T_skipGap 44 = .ok (.if_icmp .eq 9, 3) := by decide +kernel
theorem d_T_skipGap_47 : decode b_T_skipGap 47 = .ok (.iload_n 2, 1) := by decide +kernel
theorem d_T_skipGap_48 : decode b_T_skipGap 48 = .ok (.bipush 13, 2) := by decide +kernel
theorem d_T_skipGap_50 : decode b_T_skipGap 50 = .ok (.if_icmp .ne 16, 3) := by decide +kernel
theorem d_T_skipGap_53 : decode b_T_skipGap 53 = .ok (.aload_n 0, 1) := by decide +kernel
theorem d_T_skipGap_54 : decode b_T_skipGap 54 = .ok (.dup, 1) := by decide +kernel
theorem d_T_skipGap_55 : decode b_T_skipGap 55 = .ok (.getfield 45, 3) := by decide +kernel
theorem d_T_skipGap_58 : decode b_T_skipGap 58 = .ok (.iconst 1, 1) := by decide +kernel
theorem d_T_skipGap_59 : decode b_T_skipGap 59 = .ok (.iadd, 1) := by decide +kernel
theorem d_T_skipGap_60 : decode b_T_skipGap 60 = .ok (.putfield 45, 3) := by decide +kernel
theorem d_T_skipGap_63 : decode b_T_skipGap 63 = .ok (.goto 83, 3) := by decide +kernel
theorem d_T_skipGap_66 : decode b_T_skipGap 66 = .ok (.iload_n 2, 1) := by decide +kernel
theorem d_T_skipGap_67 : decode b_T_skipGap 67 = .ok (.bipush 35, 2) := by decide +kernel
theorem d_T_skipGap_69 : decode b_T_skipGap 69 = .ok (.if_icmp .ne 31, 3) := by decide +kernel
theorem d_T_skipGap_72 : decode b_T_skipGap 72 = .ok (.aload_n 0, 1) := by decide +kernel
theorem d_T_skipGap_73 : decode b_T_skipGap 73 = .ok (.aload_n 0, 1) := by decide +kernel
theorem d_T_skipGap_74 : decode b_T_skipGap 74 = .ok (.getfield 45, 3) := by decide +kernel
theorem d_T_skipGap_77 : decode b_T_skipGap 77 = .ok (.invokevirtual 67, 3) := by decide +kernel
theorem d_T_skipGap_80 : decode b_T_skipGap 80 = .ok (.istore_n 3, 1) := by decide +kernel
theorem d_T_skipGap_81 : decode b_T_skipGap 81 = .ok (.aload_n 0, 1) := by decide +kernel
theorem d_T_skipGap_82 : decode b_T_skipGap 82 = .ok (.iload_n 3, 1) := by decide +kernel
theorem d_T_skipGap_83 : decode b_T_skipGap 83 = .ok (.ifCond .ge 10, 3) := by decide +kernel
theorem d_T_skipGap_86 : decode b_T_skipGap 86 = .ok (.aload_n 0, 1) := by decide +kernel
theorem d_T_skipGap_87 : decode b_T_skipGap 87 = .ok (.getfield 42, 3) := by decide +kernel
theorem d_T_skipGap_90 : decode b_T_skipGap 90 = .ok (.goto 4, 3) := by decide +kernel
theorem d_T_skipGap_93 : decode b_T_skipGap 93 = .ok (.iload_n 3, 1) := by decide +kernel
theorem d_T_skipGap_94 : decode b_T_skipGap 94 = .ok (.putfield 45, 3) := by decide +kernel
theorem d_T_skipGap_97 : decode b_T_skipGap 97 = .ok (.goto 49, 3) := by decide +kernel
theorem d_T_skipGap_100 : decode b_T_skipGap 100 = .ok (.iload_n 2, 1) := by decide +kernel
theorem d_T_skipGap_101 : decode b_T_skipGap 101 = .ok (.bipush 47, 2) := by decide +kernel
theorem d_T_skipGap_103 : decode b_T_skipGap 103 = .ok (.if_icmp .ne 42, 3) := by decide +kernel
theorem d_T_skipGap_106 : decode b_T_skipGap 106 = .ok (.aload_n 0, 1) := by decide +kernel
theorem d_T_skipGap_107 : decode b_T_skipGap 107 = .ok (.aload_n 0, 1) := by decide +kernel
theorem d_T_skipGap_108 : decode b_T_skipGap 108 = .ok (.getfield 45, 3) := by decide +kernel
theorem d_T_skipGap_111 : decode b_T_skipGap 111 = .ok (.iconst 1, 1) := by decide +kernel
theorem d_T_skipGap_112 : decode b_T_skipGap 112 = .ok (.iadd, 1) := by decide +kernel
theorem d_T_skipGap_113 : decode b_T_skipGap 113 = .ok (.invokevirtual 63, 3) := by decide +kernel
theorem d_T_skipGap_116 : decode b_T_skipGap 116 = .ok (.bipush 42, 2) := by decide +kernel
theorem d_T_skipGap_118 : decode b_T_skipGap 118 = .ok (.if_icmp .ne 27, 3) := by decide +kernel
theorem d_T_skipGap_121 : decode b_T_skipGap 121 = .ok (.aload_n 0, 1) := by decide +kernel
theorem d_T_skipGap_122 : decode b_T_skipGap 122 = .ok (.aload_n 0, 1) := by decide +kernel
theorem d_T_skipGap_123 : decode b_T_skipGap 123 = .ok (.getfield 45, 3) := by decide +kernel
theorem d_T_skipGap_126 : decode b_T_skipGap 126 = .ok (.iconst 2, 1) := by decide +kernel
theorem d_T_skipGap_127 : decode b_T_skipGap 127 = .ok (.iadd, 1) := by decide +kernel
theorem d_T_skipGap_128 : decode b_T_skipGap 128 = .ok (.invokevirtual 70, 3) := by decide +kernel
theorem d_T_skipGap_131 : decode b_T_skipGap 131 = .ok (.istore_n 3, 1) := by decide +kernel
theorem d_T_skipGap_132 : decode b_T_skipGap 132 = .ok (.iload_n 3, 1) := by decide +kernel
theorem d_T_skipGap_133 : decode b_T_skipGap 133 = .ok (.ifCond .ge 4, 3) := by decide +kernel
theorem d_T_skipGap_136 : decode b_T_skipGap 136 = .ok (.return_, 1) := by decide +kernel
theorem d_T_skipGap_137 : decode b_T_skipGap 137 = .ok (.aload_n 0, 1) := by decide +kernel
theorem d_T_skipGap_138 : decode b_T_skipGap 138 = .ok (.iload_n 3, 1) := by decide +kernel
theorem d_T_skipGap_139 : decode b_T_skipGap 139 = .ok (.putfield 45, 3) := by decide +kernel
theorem d_T_skipGap_142 : decode b_T_skipGap 142 = .ok (.goto 4, 3) := by decide +kernel
theorem d_T_skipGap_145 : decode b_T_skipGap 145 = .ok (.return_, 1) := by decide +kernel
theorem d_T_skipGap_146 : decode b_T_skipGap 146 = .ok (.iinc 1 1, 3) := by decide +kernel
theorem d_T_skipGap_149 : decode b_T_skipGap 149 = .ok (.goto (-147), 3) := by decide +kernel
theorem d_T_skipGap_152 : decode b_T_skipGap 152 = .ok (.return_, 1) := by decide +kernel
theorem d_T_wordEnd_0 : decode b_T_wordEnd 0 = .ok (.iload_n 1, 1) := by decide +kernel
theorem d_T_wordEnd_1 : decode b_T_wordEnd 1 = .ok (.istore_n 2, 1) := by decide +kernel
theorem d_T_wordEnd_2 : decode b_T_wordEnd 2 = .ok (.iload_n 2, 1) := by decide +kernel
theorem d_T_wordEnd_3 : decode b_T_wordEnd 3 = .ok (.aload_n 0, 1) := by decide +kernel
theorem d_T_wordEnd_4 : decode b_T_wordEnd 4 = .ok (.getfield 42, 3) := by decide +kernel
theorem d_T_wordEnd_7 : decode b_T_wordEnd 7 = .ok (.if_icmp .ge 20, 3) := by decide +kernel
theorem d_T_wordEnd_10 : decode b_T_wordEnd 10 = .ok (.aload_n 0, 1) := by decide +kernel
theorem d_T_wordEnd_11 : decode b_T_wordEnd 11 = .ok (.iload_n 2, 1) := by decide +kernel
theorem d_T_wordEnd_12 : decode b_T_wordEnd 12 = .ok (.invokevirtual 63, 3) := by decide +kernel
theorem d_T_wordEnd_15 : decode b_T_wordEnd 15 = .ok (.invokestatic 99, 3) := by decide +kernel
theorem d_T_wordEnd_18 : decode b_T_wordEnd 18 = .ok (.ifCond .eq 9, 3) := by decide +kernel
theorem d_T_wordEnd_21 : decode b_T_wordEnd 21 = .ok (.iinc 2 1, 3) := by decide +kernel
theorem d_T_wordEnd_24 : decode b_T_wordEnd 24 = .ok (.goto (-22), 3) := by decide +kernel
theorem d_T_wordEnd_27 : decode b_T_wordEnd 27 = .ok (.iload_n 2, 1) := by decide +kernel
theorem d_T_wordEnd_28 : decode b_T_wordEnd 28 = .ok (.ireturn, 1) := by decide +kernel
end
section
section WEV2
variable {p : Program} {l : Launch} {e : Env} {R : Room} {s : State} {m : MethodId} {args : Array Value} {below : List Frame} {meth : Method} {c : Code} {H : Heap} {locs : List Loc} {cells slots : Nat} {Q : State → Prop} {cc : ByteArray} {pc : Nat} {ls : Array Slot} {rest : List Value}
theorem lv_evv {a b : Value} (h : a = b) (kk : W p l e R s m args below meth c H locs cells slots Q (F0 m pc ls (b :: rest))) : W p l e R s m args below meth c H locs cells slots Q (F0 m pc ls (a :: rest)) := h ▸ kk
end WEV2
/-- what put says: n bytes come behind the L that are there, L1 are there then -/
def okP (L : Nat) (n : Int32) (L1 : Nat) : Prop := ∃ j : Nat, n = nI j ∧ 1 ≤ j ∧ j ≤ 8 ∧ L + j ≤ 400 ∧ L1 = L + j
theorem okP_of {L : Nat} {n : Int32} (h1 : ¬ n < 1) (h8 : ¬ 8 < n) : ∃ j : Nat, n = nI j ∧ 1 ≤ j ∧ j ≤ 8 := by
  have h0 : ¬ n < 0 := fun h => h1 (Int32.lt_trans h (by decide))
  obtain ⟨j, hj, rfl⟩ := nI_of h0
  refine ⟨j, rfl, ?_, ?_⟩
  · rcases Nat.lt_or_ge j 1 with q | q
    · exact absurd (nI_lt q (by omega)) h1
    · exact q
  · rcases Nat.lt_or_ge 8 j with q | q
    · exact absurd (nI_lt q hj) h8
    · exact q
theorem okP_lo {L : Nat} {n : Int32} (h : n < 1) : ∀ L1, ¬ okP L n L1 := fun L1 ⟨j, e, a, _⟩ => by
  subst e
  exact nI_nlt a (by omega) h
theorem okP_hi {L : Nat} {n : Int32} (h : 8 < n) : ∀ L1, ¬ okP L n L1 := fun L1 ⟨j, e, _, a, _⟩ => by
  subst e
  exact nI_nlt a (by omega) h
end
section
set_option maxHeartbeats 4000000 in
set_option maxRecDepth 100000 in
theorem c_Q_init (l : Launch) (dC : Nat → ClassId) (dI : Nat → Nat → Nat) (k : Nat → Nat) (o : Nat) (sz : Nat) : Met l y_Q_init (.code y_Q_init b_Q_init 1 none :: TT) ({ frames := 1, cells := 1, slots := 200, locals := 12 }) (va_Pc [.ref o] (PX dC dI k [] [(o, .inr (2, [.null, .int 0]))] sz)) (va_Qv (fun u : (Nat → Nat) × (Nat → ClassId) => True) (fun u t => BX dC dI [((u.2 0), .byte)] (va_A [(o, .inr (2, [.null, .int 0]))] sz) [(o, .inr (2, [.ref (u.1 0), .int 0])), ((u.1 0), .inl ((u.2 0), 200, .inl (fun _ => 0)))] t) (va_A [(o, .inr (2, [.null, .int 0]))] sz)) 1 200 (va_A [(o, .inr (2, [.null, .int 0]))] sz) := by
  refine Met.ofW (cc := b_Q_init) (maxL := 1) (ret := none) (by decide) rfl ?_
  intro p e s m args below meth c s₁ B hml hv
  obtain ⟨rfl, hsz, hE, hP, hK, hD0⟩ := hv
  have hx := B.exec
  have hb := B.bytes
  have hr := B.returns
  have ht : ∀ w ∈ TT, w.before _ s = true := fun w hw => atoms_spec (ws := .code y_Q_init b_Q_init 1 none :: TT) B.pre w (List.mem_cons_of_mem _ hw)
  have hown : s.vm.findClass "SieveDesk$Quoted" = some m.cls := findClass_of_methodNamed B.named
  have hlocks := B.notSynchronized
  have hin : meth.name = "<init>" := (name_of_methodNamed B.named B.method).1
  subst hsz
  have hD := hD0.self (sz := s.heap.size)
  generalize hAe : va_A [(o, .inr (2, [.null, .int 0]))] s.heap.size = A at hE hD ⊢
  have hA : ∀ q : Nat, s.heap.size ≤ q → A q := fun q h9 => by rw [← hAe]; exact Or.inr h9
  have hS : va_S A s.heap s.heap [] := va_S.rf
  have hl := lv_entry ([.ref o]) (n := 1) (Nat.le_of_ble_eq_true rfl)
  rw [lg_entry_eq]
  generalize (lg_sl ([.ref o]) ++ List.replicate (1 - (lg_sl ([.ref o])).length) Slot.unset).toArray = ls at hl ⊢
  have hl : lv_has ls 1 [(0, .ref o)] := hl
  refine lv_aload_n hx hb d_Q_init_0 rfl (lv_at hl 0 rfl) ?_
  refine W.objInit hx hb hown (ht _ k_109) (ht _ k_94) (ht _ k_95) rfl (by rw [hml]; exact hl.1) rfl d_Q_init_1 (Nat.le_of_ble_eq_true rfl) (Nat.le_of_ble_eq_true rfl) ?_
  refine W.eq (g2 := F0 m 4 ls []) rfl ?_
  refine lv_aload_n hx hb d_Q_init_4 rfl (lv_at hl 0 rfl) ?_
  refine lv_sipush (v := 200) hx hb d_Q_init_5 (by decide) ?_
  refine va_newa (atype := .byte) (ty := .byte) (N' := 200) (a0 := (200, .inl (fun _ => 0))) hx hb (ht _ k_117) rfl hK hP hD hS hA (fun _ => rfl) (by decide) (by decide) (by decide) (Nat.le_of_ble_eq_true rfl) (Nat.le_of_ble_eq_true rfl) d_Q_init_8 (fun q_1 g_2 H hK hP hD hS => ?_)
  have hP : va_P (dC, dI) cls [(o, .inr (2, [.null, .int 0])), (q_1, .inl (g_2, 200, .inl (fun _ => 0)))] H := hP
  have hD : va_D A [(o, .inr (2, [.null, .int 0])), (q_1, .inl (g_2, 200, .inl (fun _ => 0)))] := hD
  have hK : va_K (dC, dI) cls [(g_2, .byte)] s := hK
  refine W.widen (k := 1) (n := 200) (by decide) (by decide) ?_
  refine va_putF (D := (dC, dI)) (ci := 2) (v := .ref q_1) (ty := .array .byte) (C := "SieveDesk$Quoted") (T := F_Q) (N := 2) hx hb ht i_Q ty_Q ty_Q_ok n_Q hown hK hP hD hS 0 rfl rfl 0 (by decide) (ht _ k_110) (fun _ h9 => h9) rfl hin rfl (ty_Q_ok 0 (by decide)) rfl rfl (Nat.le_of_ble_eq_true rfl) d_Q_init_10 (fun H locs hP hD hS => ?_)
  have hP : va_P (dC, dI) cls [(o, .inr (2, [.ref q_1, .int 0])), (q_1, .inl (g_2, 200, .inl (fun _ => 0)))] H := hP
  have hD : va_D A [(o, .inr (2, [.ref q_1, .int 0])), (q_1, .inl (g_2, 200, .inl (fun _ => 0)))] := hD
  refine lv_aload_n hx hb d_Q_init_13 rfl (lv_at hl 0 rfl) ?_
  refine lv_iconst (v := 0) hx hb d_Q_init_14 (by decide) ?_
  refine va_put (D := (dC, dI)) (ci := 2) (v := .int 0) (ty := .int) (C := "SieveDesk$Quoted") (T := F_Q) (N := 2) hx hb ht i_Q ty_Q ty_Q_ok n_Q hown hK hP hD hS 0 rfl rfl 1 (by decide) (ht _ k_111) (fun _ h9 => h9) rfl (ty_Q_ok 1 (by decide)) rfl rfl (Nat.le_of_ble_eq_true rfl) d_Q_init_15 (fun H locs hP hD hS => ?_)
  have hP : va_P (dC, dI) cls [(o, .inr (2, [.ref q_1, .int 0])), (q_1, .inl (g_2, 200, .inl (fun _ => 0)))] H := hP
  have hD : va_D A [(o, .inr (2, [.ref q_1, .int 0])), (q_1, .inl (g_2, 200, .inl (fun _ => 0)))] := hD
  exact W.vret hx hb hr (fun t het hW => ⟨⟨((fun i => match i with | 0 => q_1 | _ => 0), (fun i => match i with | _ => g_2)), rfl, trivial, by rw [het]; exact hP, va_K.moved hW.alike hK, hD⟩, hS.F het⟩) hS.2.2 d_Q_init_18
set_option maxHeartbeats 4000000 in
set_option maxRecDepth 100000 in
theorem c_T_init (l : Launch) (dC : Nat → ClassId) (dI : Nat → Nat → Nat) (k : Nat → Nat) (o sp : Nat) (sz : Nat) : Met l y_T_init (.code y_T_init b_T_init 2 none :: TT) ({ frames := 2, cells := 6, slots := 1806, locals := 32 }) (va_Pc [.ref o, .ref sp] (PX dC dI k [] [(o, .inr (1, [.null, .null, .null, .null, .null, .null, .int 0, .int 0, .int 0]))] sz)) (va_Qv (fun u : (Nat → Nat) × (Nat → ClassId) => True) (fun u t => BX dC dI [((u.2 0), .int), ((u.2 1), .int), ((u.2 2), .object "SieveDesk$Word"), ((u.2 3), .int), ((u.2 4), .byte)] (va_A [(o, .inr (1, [.null, .null, .null, .null, .null, .null, .int 0, .int 0, .int 0]))] sz) [(o, .inr (1, [.ref sp, .ref (u.1 0), .ref (u.1 1), .ref (u.1 2), .ref (u.1 3), .ref (u.1 4), .int 0, .int 0, .int 0])), ((u.1 0), .inl ((u.2 0), 401, .inl (fun _ => 0))), ((u.1 1), .inl ((u.2 1), 401, .inl (fun _ => 0))), ((u.1 2), .inl ((u.2 2), 401, .inr (.inr (.inr (.inr (fun _ => none)))))), ((u.1 3), .inl ((u.2 3), 401, .inl (fun _ => 0))), ((u.1 4), .inr (2, [.ref (u.1 5), .int 0])), ((u.1 5), .inl ((u.2 4), 200, .inl (fun _ => 0)))] t) (va_A [(o, .inr (1, [.null, .null, .null, .null, .null, .null, .int 0, .int 0, .int 0]))] sz)) 6 1806 (va_A [(o, .inr (1, [.null, .null, .null, .null, .null, .null, .int 0, .int 0, .int 0]))] sz) := by
  refine Met.ofW (cc := b_T_init) (maxL := 2) (ret := none) (by decide) rfl ?_
  intro p e s m args below meth c s₁ B hml hv
  obtain ⟨rfl, hsz, hE, hP, hK, hD0⟩ := hv
  have hx := B.exec
  have hb := B.bytes
  have hr := B.returns
  have ht : ∀ w ∈ TT, w.before _ s = true := fun w hw => atoms_spec (ws := .code y_T_init b_T_init 2 none :: TT) B.pre w (List.mem_cons_of_mem _ hw)
  have hown : s.vm.findClass "SieveDesk$Tokens" = some m.cls := findClass_of_methodNamed B.named
  have hlocks := B.notSynchronized
  have hin : meth.name = "<init>" := (name_of_methodNamed B.named B.method).1
  subst hsz
  have hD := hD0.self (sz := s.heap.size)
  generalize hAe : va_A [(o, .inr (1, [.null, .null, .null, .null, .null, .null, .int 0, .int 0, .int 0]))] s.heap.size = A at hE hD ⊢
  have hA : ∀ q : Nat, s.heap.size ≤ q → A q := fun q h9 => by rw [← hAe]; exact Or.inr h9
  have hS : va_S A s.heap s.heap [] := va_S.rf
  have hl := lv_entry ([.ref o, .ref sp]) (n := 2) (Nat.le_of_ble_eq_true rfl)
  rw [lg_entry_eq]
  generalize (lg_sl ([.ref o, .ref sp]) ++ List.replicate (2 - (lg_sl ([.ref o, .ref sp])).length) Slot.unset).toArray = ls at hl ⊢
  have hl : lv_has ls 2 [(0, .ref o), (1, .ref sp)] := hl
  refine lv_aload_n hx hb d_T_init_0 rfl (lv_at hl 0 rfl) ?_
  refine W.objInit hx hb hown (ht _ k_101) (ht _ k_94) (ht _ k_95) rfl (by rw [hml]; exact hl.1) rfl d_T_init_1 (Nat.le_of_ble_eq_true rfl) (Nat.le_of_ble_eq_true rfl) ?_
  refine W.eq (g2 := F0 m 4 ls []) rfl ?_
  refine lv_aload_n hx hb d_T_init_4 rfl (lv_at hl 0 rfl) ?_
  refine lv_aload_n hx hb d_T_init_5 rfl (lv_at hl 1 rfl) ?_
  refine va_putF (D := (dC, dI)) (ci := 1) (v := .ref sp) (ty := .array .byte) (C := "SieveDesk$Tokens") (T := F_T) (N := 9) hx hb ht i_T ty_T ty_T_ok n_T hown hK hP hD hS 0 rfl rfl 0 (by decide) (ht _ k_119) (fun _ h9 => h9) rfl hin rfl (ty_T_ok 0 (by decide)) rfl rfl (Nat.le_of_ble_eq_true rfl) d_T_init_6 (fun H locs hP hD hS => ?_)
  have hP : va_P (dC, dI) cls [(o, .inr (1, [.ref sp, .null, .null, .null, .null, .null, .int 0, .int 0, .int 0]))] H := hP
  have hD : va_D A [(o, .inr (1, [.ref sp, .null, .null, .null, .null, .null, .int 0, .int 0, .int 0]))] := hD
  refine lv_aload_n hx hb d_T_init_9 rfl (lv_at hl 0 rfl) ?_
  refine lv_sipush (v := 401) hx hb d_T_init_10 (by decide) ?_
  refine va_newa (atype := .int) (ty := .int) (N' := 401) (a0 := (401, .inl (fun _ => 0))) hx hb (ht _ k_118) rfl hK hP hD hS hA (fun _ => rfl) (by decide) (by decide) (by decide) (Nat.le_of_ble_eq_true rfl) (Nat.le_of_ble_eq_true rfl) d_T_init_13 (fun q_1 g_2 H hK hP hD hS => ?_)
  have hP : va_P (dC, dI) cls [(o, .inr (1, [.ref sp, .null, .null, .null, .null, .null, .int 0, .int 0, .int 0])), (q_1, .inl (g_2, 401, .inl (fun _ => 0)))] H := hP
  have hD : va_D A [(o, .inr (1, [.ref sp, .null, .null, .null, .null, .null, .int 0, .int 0, .int 0])), (q_1, .inl (g_2, 401, .inl (fun _ => 0)))] := hD
  have hK : va_K (dC, dI) cls [(g_2, .int)] s := hK
  refine W.widen (k := 1) (n := 401) (by decide) (by decide) ?_
  refine va_putF (D := (dC, dI)) (ci := 1) (v := .ref q_1) (ty := .array .int) (C := "SieveDesk$Tokens") (T := F_T) (N := 9) hx hb ht i_T ty_T ty_T_ok n_T hown hK hP hD hS 0 rfl rfl 1 (by decide) (ht _ k_120) (fun _ h9 => h9) rfl hin rfl (ty_T_ok 1 (by decide)) rfl rfl (Nat.le_of_ble_eq_true rfl) d_T_init_15 (fun H locs hP hD hS => ?_)
  have hP : va_P (dC, dI) cls [(o, .inr (1, [.ref sp, .ref q_1, .null, .null, .null, .null, .int 0, .int 0, .int 0])), (q_1, .inl (g_2, 401, .inl (fun _ => 0)))] H := hP
  have hD : va_D A [(o, .inr (1, [.ref sp, .ref q_1, .null, .null, .null, .null, .int 0, .int 0, .int 0])), (q_1, .inl (g_2, 401, .inl (fun _ => 0)))] := hD
  refine lv_aload_n hx hb d_T_init_18 rfl (lv_at hl 0 rfl) ?_
  refine lv_sipush (v := 401) hx hb d_T_init_19 (by decide) ?_
  refine va_newa (atype := .int) (ty := .int) (N' := 401) (a0 := (401, .inl (fun _ => 0))) hx hb (ht _ k_118) rfl hK hP hD hS hA (fun _ => rfl) (by decide) (by decide) (by decide) (Nat.le_of_ble_eq_true rfl) (Nat.le_of_ble_eq_true rfl) d_T_init_22 (fun q_3 g_4 H hK hP hD hS => ?_)
  have hP : va_P (dC, dI) cls [(o, .inr (1, [.ref sp, .ref q_1, .null, .null, .null, .null, .int 0, .int 0, .int 0])), (q_1, .inl (g_2, 401, .inl (fun _ => 0))), (q_3, .inl (g_4, 401, .inl (fun _ => 0)))] H := hP
  have hD : va_D A [(o, .inr (1, [.ref sp, .ref q_1, .null, .null, .null, .null, .int 0, .int 0, .int 0])), (q_1, .inl (g_2, 401, .inl (fun _ => 0))), (q_3, .inl (g_4, 401, .inl (fun _ => 0)))] := hD
  have hK : va_K (dC, dI) cls [(g_2, .int), (g_4, .int)] s := hK
  refine W.widen (k := 2) (n := 802) (by decide) (by decide) ?_
  refine va_putF (D := (dC, dI)) (ci := 1) (v := .ref q_3) (ty := .array .int) (C := "SieveDesk$Tokens") (T := F_T) (N := 9) hx hb ht i_T ty_T ty_T_ok n_T hown hK hP hD hS 0 rfl rfl 2 (by decide) (ht _ k_122) (fun _ h9 => h9) rfl hin rfl (ty_T_ok 2 (by decide)) rfl rfl (Nat.le_of_ble_eq_true rfl) d_T_init_24 (fun H locs hP hD hS => ?_)
  have hP : va_P (dC, dI) cls [(o, .inr (1, [.ref sp, .ref q_1, .ref q_3, .null, .null, .null, .int 0, .int 0, .int 0])), (q_1, .inl (g_2, 401, .inl (fun _ => 0))), (q_3, .inl (g_4, 401, .inl (fun _ => 0)))] H := hP
  have hD : va_D A [(o, .inr (1, [.ref sp, .ref q_1, .ref q_3, .null, .null, .null, .int 0, .int 0, .int 0])), (q_1, .inl (g_2, 401, .inl (fun _ => 0))), (q_3, .inl (g_4, 401, .inl (fun _ => 0)))] := hD
  refine lv_aload_n hx hb d_T_init_27 rfl (lv_at hl 0 rfl) ?_
  refine lv_sipush (v := 401) hx hb d_T_init_28 (by decide) ?_
  refine va_newq (C := "SieveDesk$Word") (N' := 401) hx hb hown (ht _ k_102) hE.2.1 hK hP hD hS hA (by decide) (by decide) (by decide) (Nat.le_of_ble_eq_true rfl) (Nat.le_of_ble_eq_true rfl) d_T_init_31 (fun q_5 g_6 H hK hP hD hS => ?_)
  have hP : va_P (dC, dI) cls [(o, .inr (1, [.ref sp, .ref q_1, .ref q_3, .null, .null, .null, .int 0, .int 0, .int 0])), (q_1, .inl (g_2, 401, .inl (fun _ => 0))), (q_3, .inl (g_4, 401, .inl (fun _ => 0))), (q_5, .inl (g_6, 401, .inr (.inr (.inr (.inr (fun _ => none))))))] H := hP
  have hD : va_D A [(o, .inr (1, [.ref sp, .ref q_1, .ref q_3, .null, .null, .null, .int 0, .int 0, .int 0])), (q_1, .inl (g_2, 401, .inl (fun _ => 0))), (q_3, .inl (g_4, 401, .inl (fun _ => 0))), (q_5, .inl (g_6, 401, .inr (.inr (.inr (.inr (fun _ => none))))))] := hD
  have hK : va_K (dC, dI) cls [(g_2, .int), (g_4, .int), (g_6, .object "SieveDesk$Word")] s := hK
  refine W.widen (k := 3) (n := 1203) (by decide) (by decide) ?_
  refine va_putF (D := (dC, dI)) (ci := 1) (v := .ref q_5) (ty := .array (.object "SieveDesk$Word")) (C := "SieveDesk$Tokens") (T := F_T) (N := 9) hx hb ht i_T ty_T ty_T_ok n_T hown hK hP hD hS 0 rfl rfl 3 (by decide) (ht _ k_124) (fun _ h9 => h9) rfl hin rfl (ty_T_ok 3 (by decide)) rfl rfl (Nat.le_of_ble_eq_true rfl) d_T_init_34 (fun H locs hP hD hS => ?_)
  have hP : va_P (dC, dI) cls [(o, .inr (1, [.ref sp, .ref q_1, .ref q_3, .ref q_5, .null, .null, .int 0, .int 0, .int 0])), (q_1, .inl (g_2, 401, .inl (fun _ => 0))), (q_3, .inl (g_4, 401, .inl (fun _ => 0))), (q_5, .inl (g_6, 401, .inr (.inr (.inr (.inr (fun _ => none))))))] H := hP
  have hD : va_D A [(o, .inr (1, [.ref sp, .ref q_1, .ref q_3, .ref q_5, .null, .null, .int 0, .int 0, .int 0])), (q_1, .inl (g_2, 401, .inl (fun _ => 0))), (q_3, .inl (g_4, 401, .inl (fun _ => 0))), (q_5, .inl (g_6, 401, .inr (.inr (.inr (.inr (fun _ => none))))))] := hD
  refine lv_aload_n hx hb d_T_init_37 rfl (lv_at hl 0 rfl) ?_
  refine lv_sipush (v := 401) hx hb d_T_init_38 (by decide) ?_
  refine va_newa (atype := .int) (ty := .int) (N' := 401) (a0 := (401, .inl (fun _ => 0))) hx hb (ht _ k_118) rfl hK hP hD hS hA (fun _ => rfl) (by decide) (by decide) (by decide) (Nat.le_of_ble_eq_true rfl) (Nat.le_of_ble_eq_true rfl) d_T_init_41 (fun q_7 g_8 H hK hP hD hS => ?_)
  have hP : va_P (dC, dI) cls [(o, .inr (1, [.ref sp, .ref q_1, .ref q_3, .ref q_5, .null, .null, .int 0, .int 0, .int 0])), (q_1, .inl (g_2, 401, .inl (fun _ => 0))), (q_3, .inl (g_4, 401, .inl (fun _ => 0))), (q_5, .inl (g_6, 401, .inr (.inr (.inr (.inr (fun _ => none)))))), (q_7, .inl (g_8, 401, .inl (fun _ => 0)))] H := hP
  have hD : va_D A [(o, .inr (1, [.ref sp, .ref q_1, .ref q_3, .ref q_5, .null, .null, .int 0, .int 0, .int 0])), (q_1, .inl (g_2, 401, .inl (fun _ => 0))), (q_3, .inl (g_4, 401, .inl (fun _ => 0))), (q_5, .inl (g_6, 401, .inr (.inr (.inr (.inr (fun _ => none)))))), (q_7, .inl (g_8, 401, .inl (fun _ => 0)))] := hD
  have hK : va_K (dC, dI) cls [(g_2, .int), (g_4, .int), (g_6, .object "SieveDesk$Word"), (g_8, .int)] s := hK
  refine W.widen (k := 4) (n := 1604) (by decide) (by decide) ?_
  refine va_putF (D := (dC, dI)) (ci := 1) (v := .ref q_7) (ty := .array .int) (C := "SieveDesk$Tokens") (T := F_T) (N := 9) hx hb ht i_T ty_T ty_T_ok n_T hown hK hP hD hS 0 rfl rfl 4 (by decide) (ht _ k_126) (fun _ h9 => h9) rfl hin rfl (ty_T_ok 4 (by decide)) rfl rfl (Nat.le_of_ble_eq_true rfl) d_T_init_43 (fun H locs hP hD hS => ?_)
  have hP : va_P (dC, dI) cls [(o, .inr (1, [.ref sp, .ref q_1, .ref q_3, .ref q_5, .ref q_7, .null, .int 0, .int 0, .int 0])), (q_1, .inl (g_2, 401, .inl (fun _ => 0))), (q_3, .inl (g_4, 401, .inl (fun _ => 0))), (q_5, .inl (g_6, 401, .inr (.inr (.inr (.inr (fun _ => none)))))), (q_7, .inl (g_8, 401, .inl (fun _ => 0)))] H := hP
  have hD : va_D A [(o, .inr (1, [.ref sp, .ref q_1, .ref q_3, .ref q_5, .ref q_7, .null, .int 0, .int 0, .int 0])), (q_1, .inl (g_2, 401, .inl (fun _ => 0))), (q_3, .inl (g_4, 401, .inl (fun _ => 0))), (q_5, .inl (g_6, 401, .inr (.inr (.inr (.inr (fun _ => none)))))), (q_7, .inl (g_8, 401, .inl (fun _ => 0)))] := hD
  refine lv_aload_n hx hb d_T_init_46 rfl (lv_at hl 0 rfl) ?_
  refine va_new (ci := 2) (fs := [.null, .int 0]) (C := "SieveDesk$Quoted") (T := F_Q) (N := 2) hx hb ht i_Q ty_Q ty_Q_ok hown (ht _ k_104) (ht _ k_105) (ht _ k_76) hK hP hD hS hA rfl (by decide +kernel) (Nat.le_of_ble_eq_true rfl) (Nat.le_of_ble_eq_true rfl) d_T_init_47 (fun q_9 H hP hD hS => ?_)
  have hP : va_P (dC, dI) cls [(o, .inr (1, [.ref sp, .ref q_1, .ref q_3, .ref q_5, .ref q_7, .null, .int 0, .int 0, .int 0])), (q_1, .inl (g_2, 401, .inl (fun _ => 0))), (q_3, .inl (g_4, 401, .inl (fun _ => 0))), (q_5, .inl (g_6, 401, .inr (.inr (.inr (.inr (fun _ => none)))))), (q_7, .inl (g_8, 401, .inl (fun _ => 0))), (q_9, .inr (2, [.null, .int 0]))] H := hP
  have hD : va_D A [(o, .inr (1, [.ref sp, .ref q_1, .ref q_3, .ref q_5, .ref q_7, .null, .int 0, .int 0, .int 0])), (q_1, .inl (g_2, 401, .inl (fun _ => 0))), (q_3, .inl (g_4, 401, .inl (fun _ => 0))), (q_5, .inl (g_6, 401, .inr (.inr (.inr (.inr (fun _ => none)))))), (q_7, .inl (g_8, 401, .inl (fun _ => 0))), (q_9, .inr (2, [.null, .int 0]))] := hD
  refine W.widen (k := 5) (n := 1606) (by decide) (by decide) ?_
  refine lv_dup hx hb d_T_init_50 rfl ?_
  have hPc := hP.sub (ws' := [(q_9, .inr (2, [.null, .int 0]))]) [5] rfl
  have hDc := hD.sub (ws' := [(q_9, .inr (2, [.null, .int 0]))]) [5] (by decide) rfl
  have hKc := hK.sub (tys' := []) [] rfl
  have hFc := va_free (wc := [(q_9, .inr (2, [.null, .int 0]))]) hD hS hA [5] rfl
  refine va_callv (va_runI (As := []) (rest := [.ref q_9, .ref o]) ⟨hx, hb, hml, hown, ht⟩ (c_Q_init l dC dI k q_9  H.size) (cwI 0 ht (g_C k_108) rfl rfl rfl (ht _ k_76) (ht _ k_106) (ht _ k_107) rfl (by decide +kernel) ⟨(Nat.le_of_ble_eq_true rfl), (Nat.le_of_ble_eq_true rfl)⟩) ⟨fb_X, pre_X hE hS hFc hPc hKc hDc⟩ rfl rfl hl.1 rfl (lv_room (Nat.le_of_ble_eq_true rfl)) d_T_init_51 ⟨(Nat.le_of_ble_eq_true rfl), (Nat.le_of_ble_eq_true rfl)⟩) hS (fun q _ h9 => hFc q h9) hFc (fun u_10 t H1 locs het hvm hw hB hz1 hk1 hS => ?_)
  obtain ⟨hP1, hK1, hD1⟩ := hB
  rw [het] at hP1
  have hK1 := va_K.moved hvm.symm hK1
  obtain ⟨hP, hD⟩ := va_join (wr := [(o, .inr (1, [.ref sp, .ref q_1, .ref q_3, .ref q_5, .ref q_7, .null, .int 0, .int 0, .int 0])), (q_1, .inl (g_2, 401, .inl (fun _ => 0))), (q_3, .inl (g_4, 401, .inl (fun _ => 0))), (q_5, .inl (g_6, 401, .inr (.inr (.inr (.inr (fun _ => none)))))), (q_7, .inl (g_8, 401, .inl (fun _ => 0)))]) (w1 := [(q_9, .inr (2, [.ref (u_10.1 0), .int 0])), ((u_10.1 0), .inl ((u_10.2 0), 200, .inl (fun _ => 0)))]) hP hD [5] [0, 1, 2, 3, 4] rfl rfl (by decide) (by decide) hk1 hFc hP1 hD1
  have hK := hK.app hK1
  generalize H1 = H at hP hS ⊢
  have hP : va_P (dC, dI) cls [(o, .inr (1, [.ref sp, .ref q_1, .ref q_3, .ref q_5, .ref q_7, .null, .int 0, .int 0, .int 0])), (q_1, .inl (g_2, 401, .inl (fun _ => 0))), (q_3, .inl (g_4, 401, .inl (fun _ => 0))), (q_5, .inl (g_6, 401, .inr (.inr (.inr (.inr (fun _ => none)))))), (q_7, .inl (g_8, 401, .inl (fun _ => 0))), (q_9, .inr (2, [.ref (u_10.1 0), .int 0])), ((u_10.1 0), .inl ((u_10.2 0), 200, .inl (fun _ => 0)))] H := hP
  have hD : va_D A [(o, .inr (1, [.ref sp, .ref q_1, .ref q_3, .ref q_5, .ref q_7, .null, .int 0, .int 0, .int 0])), (q_1, .inl (g_2, 401, .inl (fun _ => 0))), (q_3, .inl (g_4, 401, .inl (fun _ => 0))), (q_5, .inl (g_6, 401, .inr (.inr (.inr (.inr (fun _ => none)))))), (q_7, .inl (g_8, 401, .inl (fun _ => 0))), (q_9, .inr (2, [.ref (u_10.1 0), .int 0])), ((u_10.1 0), .inl ((u_10.2 0), 200, .inl (fun _ => 0)))] := hD
  have hK : va_K (dC, dI) cls [(g_2, .int), (g_4, .int), (g_6, .object "SieveDesk$Word"), (g_8, .int), ((u_10.2 0), .byte)] s := hK
  refine W.widen (k := 6) (n := 1806) (by decide) (by decide) ?_
  refine va_putF (D := (dC, dI)) (ci := 1) (v := .ref q_9) (ty := .object "SieveDesk$Quoted") (C := "SieveDesk$Tokens") (T := F_T) (N := 9) hx hb ht i_T ty_T ty_T_ok n_T hown hK hP hD hS 0 rfl rfl 5 (by decide) (ht _ k_128) (fun _ h9 => h9) rfl hin rfl (ty_T_ok 5 (by decide)) rfl rfl (Nat.le_of_ble_eq_true rfl) d_T_init_54 (fun H locs hP hD hS => ?_)
  have hP : va_P (dC, dI) cls [(o, .inr (1, [.ref sp, .ref q_1, .ref q_3, .ref q_5, .ref q_7, .ref q_9, .int 0, .int 0, .int 0])), (q_1, .inl (g_2, 401, .inl (fun _ => 0))), (q_3, .inl (g_4, 401, .inl (fun _ => 0))), (q_5, .inl (g_6, 401, .inr (.inr (.inr (.inr (fun _ => none)))))), (q_7, .inl (g_8, 401, .inl (fun _ => 0))), (q_9, .inr (2, [.ref (u_10.1 0), .int 0])), ((u_10.1 0), .inl ((u_10.2 0), 200, .inl (fun _ => 0)))] H := hP
  have hD : va_D A [(o, .inr (1, [.ref sp, .ref q_1, .ref q_3, .ref q_5, .ref q_7, .ref q_9, .int 0, .int 0, .int 0])), (q_1, .inl (g_2, 401, .inl (fun _ => 0))), (q_3, .inl (g_4, 401, .inl (fun _ => 0))), (q_5, .inl (g_6, 401, .inr (.inr (.inr (.inr (fun _ => none)))))), (q_7, .inl (g_8, 401, .inl (fun _ => 0))), (q_9, .inr (2, [.ref (u_10.1 0), .int 0])), ((u_10.1 0), .inl ((u_10.2 0), 200, .inl (fun _ => 0)))] := hD
  refine lv_aload_n hx hb d_T_init_57 rfl (lv_at hl 0 rfl) ?_
  refine lv_iconst (v := 0) hx hb d_T_init_58 (by decide) ?_
  refine va_put (D := (dC, dI)) (ci := 1) (v := .int 0) (ty := .int) (C := "SieveDesk$Tokens") (T := F_T) (N := 9) hx hb ht i_T ty_T ty_T_ok n_T hown hK hP hD hS 0 rfl rfl 6 (by decide) (ht _ k_129) (fun _ h9 => h9) rfl (ty_T_ok 6 (by decide)) rfl rfl (Nat.le_of_ble_eq_true rfl) d_T_init_59 (fun H locs hP hD hS => ?_)
  have hP : va_P (dC, dI) cls [(o, .inr (1, [.ref sp, .ref q_1, .ref q_3, .ref q_5, .ref q_7, .ref q_9, .int 0, .int 0, .int 0])), (q_1, .inl (g_2, 401, .inl (fun _ => 0))), (q_3, .inl (g_4, 401, .inl (fun _ => 0))), (q_5, .inl (g_6, 401, .inr (.inr (.inr (.inr (fun _ => none)))))), (q_7, .inl (g_8, 401, .inl (fun _ => 0))), (q_9, .inr (2, [.ref (u_10.1 0), .int 0])), ((u_10.1 0), .inl ((u_10.2 0), 200, .inl (fun _ => 0)))] H := hP
  have hD : va_D A [(o, .inr (1, [.ref sp, .ref q_1, .ref q_3, .ref q_5, .ref q_7, .ref q_9, .int 0, .int 0, .int 0])), (q_1, .inl (g_2, 401, .inl (fun _ => 0))), (q_3, .inl (g_4, 401, .inl (fun _ => 0))), (q_5, .inl (g_6, 401, .inr (.inr (.inr (.inr (fun _ => none)))))), (q_7, .inl (g_8, 401, .inl (fun _ => 0))), (q_9, .inr (2, [.ref (u_10.1 0), .int 0])), ((u_10.1 0), .inl ((u_10.2 0), 200, .inl (fun _ => 0)))] := hD
  refine lv_aload_n hx hb d_T_init_62 rfl (lv_at hl 0 rfl) ?_
  refine lv_iconst (v := 0) hx hb d_T_init_63 (by decide) ?_
  refine va_put (D := (dC, dI)) (ci := 1) (v := .int 0) (ty := .int) (C := "SieveDesk$Tokens") (T := F_T) (N := 9) hx hb ht i_T ty_T ty_T_ok n_T hown hK hP hD hS 0 rfl rfl 7 (by decide) (ht _ k_131) (fun _ h9 => h9) rfl (ty_T_ok 7 (by decide)) rfl rfl (Nat.le_of_ble_eq_true rfl) d_T_init_64 (fun H locs hP hD hS => ?_)
  have hP : va_P (dC, dI) cls [(o, .inr (1, [.ref sp, .ref q_1, .ref q_3, .ref q_5, .ref q_7, .ref q_9, .int 0, .int 0, .int 0])), (q_1, .inl (g_2, 401, .inl (fun _ => 0))), (q_3, .inl (g_4, 401, .inl (fun _ => 0))), (q_5, .inl (g_6, 401, .inr (.inr (.inr (.inr (fun _ => none)))))), (q_7, .inl (g_8, 401, .inl (fun _ => 0))), (q_9, .inr (2, [.ref (u_10.1 0), .int 0])), ((u_10.1 0), .inl ((u_10.2 0), 200, .inl (fun _ => 0)))] H := hP
  have hD : va_D A [(o, .inr (1, [.ref sp, .ref q_1, .ref q_3, .ref q_5, .ref q_7, .ref q_9, .int 0, .int 0, .int 0])), (q_1, .inl (g_2, 401, .inl (fun _ => 0))), (q_3, .inl (g_4, 401, .inl (fun _ => 0))), (q_5, .inl (g_6, 401, .inr (.inr (.inr (.inr (fun _ => none)))))), (q_7, .inl (g_8, 401, .inl (fun _ => 0))), (q_9, .inr (2, [.ref (u_10.1 0), .int 0])), ((u_10.1 0), .inl ((u_10.2 0), 200, .inl (fun _ => 0)))] := hD
  refine lv_aload_n hx hb d_T_init_67 rfl (lv_at hl 0 rfl) ?_
  refine lv_iconst (v := 0) hx hb d_T_init_68 (by decide) ?_
  refine va_put (D := (dC, dI)) (ci := 1) (v := .int 0) (ty := .int) (C := "SieveDesk$Tokens") (T := F_T) (N := 9) hx hb ht i_T ty_T ty_T_ok n_T hown hK hP hD hS 0 rfl rfl 8 (by decide) (ht _ k_132) (fun _ h9 => h9) rfl (ty_T_ok 8 (by decide)) rfl rfl (Nat.le_of_ble_eq_true rfl) d_T_init_69 (fun H locs hP hD hS => ?_)
  have hP : va_P (dC, dI) cls [(o, .inr (1, [.ref sp, .ref q_1, .ref q_3, .ref q_5, .ref q_7, .ref q_9, .int 0, .int 0, .int 0])), (q_1, .inl (g_2, 401, .inl (fun _ => 0))), (q_3, .inl (g_4, 401, .inl (fun _ => 0))), (q_5, .inl (g_6, 401, .inr (.inr (.inr (.inr (fun _ => none)))))), (q_7, .inl (g_8, 401, .inl (fun _ => 0))), (q_9, .inr (2, [.ref (u_10.1 0), .int 0])), ((u_10.1 0), .inl ((u_10.2 0), 200, .inl (fun _ => 0)))] H := hP
  have hD : va_D A [(o, .inr (1, [.ref sp, .ref q_1, .ref q_3, .ref q_5, .ref q_7, .ref q_9, .int 0, .int 0, .int 0])), (q_1, .inl (g_2, 401, .inl (fun _ => 0))), (q_3, .inl (g_4, 401, .inl (fun _ => 0))), (q_5, .inl (g_6, 401, .inr (.inr (.inr (.inr (fun _ => none)))))), (q_7, .inl (g_8, 401, .inl (fun _ => 0))), (q_9, .inr (2, [.ref (u_10.1 0), .int 0])), ((u_10.1 0), .inl ((u_10.2 0), 200, .inl (fun _ => 0)))] := hD
  exact W.vret hx hb hr (fun t het hW => ⟨⟨((fun i => match i with | 0 => q_1 | 1 => q_3 | 2 => q_5 | 3 => q_7 | 4 => q_9 | 5 => (u_10.1 0) | _ => 0), (fun i => match i with | 0 => g_2 | 1 => g_4 | 2 => g_6 | 3 => g_8 | _ => (u_10.2 0))), rfl, trivial, by rw [het]; exact hP, va_K.moved hW.alike hK, hD⟩, hS.F het⟩) hS.2.2 d_T_init_72
set_option maxHeartbeats 4000000 in
set_option maxRecDepth 100000 in
theorem c_G_init (l : Launch) (dC : Nat → ClassId) (dI : Nat → Nat → Nat) (k : Nat → Nat) (o tk : Nat) (sz : Nat) : Met l y_G_init (.code y_G_init b_G_init 2 none :: TT) ({ frames := 1, cells := 1, slots := 200, locals := 12 }) (va_Pc [.ref o, .ref tk] (PX dC dI k [] [(o, .inr (3, [.null, .null, .int 0, .int 0, .int 0, .null, .null, .int 0, .int 0, .int 0, .int 0, .int 0, .int 0, .int 0]))] sz)) (va_Qv (fun u : (Nat → Nat) × (Nat → ClassId) => True) (fun u t => BX dC dI [((u.2 0), .char)] (va_A [(o, .inr (3, [.null, .null, .int 0, .int 0, .int 0, .null, .null, .int 0, .int 0, .int 0, .int 0, .int 0, .int 0, .int 0]))] sz) [(o, .inr (3, [.ref tk, .ref (u.1 0), .int 0, .int 0, .int 0, .ref (k 0), .ref (k 0), .int 0, .int 0, .int 0, .int 0, .int 0, .int 0, .int 0])), ((u.1 0), .inl ((u.2 0), 200, .inl (fun _ => 0)))] t) (va_A [(o, .inr (3, [.null, .null, .int 0, .int 0, .int 0, .null, .null, .int 0, .int 0, .int 0, .int 0, .int 0, .int 0, .int 0]))] sz)) 1 200 (va_A [(o, .inr (3, [.null, .null, .int 0, .int 0, .int 0, .null, .null, .int 0, .int 0, .int 0, .int 0, .int 0, .int 0, .int 0]))] sz) := by
  refine Met.ofW (cc := b_G_init) (maxL := 2) (ret := none) (by decide) rfl ?_
  intro p e s m args below meth c s₁ B hml hv
  obtain ⟨rfl, hsz, hE, hP, hK, hD0⟩ := hv
  have hx := B.exec
  have hb := B.bytes
  have hr := B.returns
  have ht : ∀ w ∈ TT, w.before _ s = true := fun w hw => atoms_spec (ws := .code y_G_init b_G_init 2 none :: TT) B.pre w (List.mem_cons_of_mem _ hw)
  have hown : s.vm.findClass "SieveDesk$Grammar" = some m.cls := findClass_of_methodNamed B.named
  have hlocks := B.notSynchronized
  have hin : meth.name = "<init>" := (name_of_methodNamed B.named B.method).1
  subst hsz
  have hD := hD0.self (sz := s.heap.size)
  generalize hAe : va_A [(o, .inr (3, [.null, .null, .int 0, .int 0, .int 0, .null, .null, .int 0, .int 0, .int 0, .int 0, .int 0, .int 0, .int 0]))] s.heap.size = A at hE hD ⊢
  have hA : ∀ q : Nat, s.heap.size ≤ q → A q := fun q h9 => by rw [← hAe]; exact Or.inr h9
  have hS : va_S A s.heap s.heap [] := va_S.rf
  have hl := lv_entry ([.ref o, .ref tk]) (n := 2) (Nat.le_of_ble_eq_true rfl)
  rw [lg_entry_eq]
  generalize (lg_sl ([.ref o, .ref tk]) ++ List.replicate (2 - (lg_sl ([.ref o, .ref tk])).length) Slot.unset).toArray = ls at hl ⊢
  have hl : lv_has ls 2 [(0, .ref o), (1, .ref tk)] := hl
  refine lv_aload_n hx hb d_G_init_0 rfl (lv_at hl 0 rfl) ?_
  refine W.objInit hx hb hown (ht _ k_157) (ht _ k_94) (ht _ k_95) rfl (by rw [hml]; exact hl.1) rfl d_G_init_1 (Nat.le_of_ble_eq_true rfl) (Nat.le_of_ble_eq_true rfl) ?_
  refine W.eq (g2 := F0 m 4 ls []) rfl ?_
  refine lv_aload_n hx hb d_G_init_4 rfl (lv_at hl 0 rfl) ?_
  refine lv_aload_n hx hb d_G_init_5 rfl (lv_at hl 1 rfl) ?_
  refine va_putF (D := (dC, dI)) (ci := 3) (v := .ref tk) (ty := .object "SieveDesk$Tokens") (C := "SieveDesk$Grammar") (T := F_G) (N := 14) hx hb ht i_G ty_G ty_G_ok n_G hown hK hP hD hS 0 rfl rfl 0 (by decide) (ht _ k_160) (fun _ h9 => h9) rfl hin rfl (ty_G_ok 0 (by decide)) rfl rfl (Nat.le_of_ble_eq_true rfl) d_G_init_6 (fun H locs hP hD hS => ?_)
  have hP : va_P (dC, dI) cls [(o, .inr (3, [.ref tk, .null, .int 0, .int 0, .int 0, .null, .null, .int 0, .int 0, .int 0, .int 0, .int 0, .int 0, .int 0]))] H := hP
  have hD : va_D A [(o, .inr (3, [.ref tk, .null, .int 0, .int 0, .int 0, .null, .null, .int 0, .int 0, .int 0, .int 0, .int 0, .int 0, .int 0]))] := hD
  refine lv_aload_n hx hb d_G_init_9 rfl (lv_at hl 0 rfl) ?_
  refine lv_sipush (v := 200) hx hb d_G_init_10 (by decide) ?_
  refine va_newa (atype := .char) (ty := .char) (N' := 200) (a0 := (200, .inl (fun _ => 0))) hx hb (ht _ k_206) rfl hK hP hD hS hA (fun _ => rfl) (by decide) (by decide) (by decide) (Nat.le_of_ble_eq_true rfl) (Nat.le_of_ble_eq_true rfl) d_G_init_13 (fun q_1 g_2 H hK hP hD hS => ?_)
  have hP : va_P (dC, dI) cls [(o, .inr (3, [.ref tk, .null, .int 0, .int 0, .int 0, .null, .null, .int 0, .int 0, .int 0, .int 0, .int 0, .int 0, .int 0])), (q_1, .inl (g_2, 200, .inl (fun _ => 0)))] H := hP
  have hD : va_D A [(o, .inr (3, [.ref tk, .null, .int 0, .int 0, .int 0, .null, .null, .int 0, .int 0, .int 0, .int 0, .int 0, .int 0, .int 0])), (q_1, .inl (g_2, 200, .inl (fun _ => 0)))] := hD
  have hK : va_K (dC, dI) cls [(g_2, .char)] s := hK
  refine W.widen (k := 1) (n := 200) (by decide) (by decide) ?_
  refine va_putF (D := (dC, dI)) (ci := 3) (v := .ref q_1) (ty := .array .char) (C := "SieveDesk$Grammar") (T := F_G) (N := 14) hx hb ht i_G ty_G ty_G_ok n_G hown hK hP hD hS 0 rfl rfl 1 (by decide) (ht _ k_161) (fun _ h9 => h9) rfl hin rfl (ty_G_ok 1 (by decide)) rfl rfl (Nat.le_of_ble_eq_true rfl) d_G_init_15 (fun H locs hP hD hS => ?_)
  have hP : va_P (dC, dI) cls [(o, .inr (3, [.ref tk, .ref q_1, .int 0, .int 0, .int 0, .null, .null, .int 0, .int 0, .int 0, .int 0, .int 0, .int 0, .int 0])), (q_1, .inl (g_2, 200, .inl (fun _ => 0)))] H := hP
  have hD : va_D A [(o, .inr (3, [.ref tk, .ref q_1, .int 0, .int 0, .int 0, .null, .null, .int 0, .int 0, .int 0, .int 0, .int 0, .int 0, .int 0])), (q_1, .inl (g_2, 200, .inl (fun _ => 0)))] := hD
  refine lv_aload_n hx hb d_G_init_18 rfl (lv_at hl 0 rfl) ?_
  refine va_gets hx hb (ke_W_NONE hE) hS hown (ht _ k_158) (fun _ h9 => h9) d_G_init_19 ?_
  refine va_put (D := (dC, dI)) (ci := 3) (v := .ref (k 0)) (ty := .object "SieveDesk$Word") (C := "SieveDesk$Grammar") (T := F_G) (N := 14) hx hb ht i_G ty_G ty_G_ok n_G hown hK hP hD hS 0 rfl rfl 5 (by decide) (ht _ k_165) (fun _ h9 => h9) rfl (ty_G_ok 5 (by decide)) rfl rfl (Nat.le_of_ble_eq_true rfl) d_G_init_22 (fun H locs hP hD hS => ?_)
  have hP : va_P (dC, dI) cls [(o, .inr (3, [.ref tk, .ref q_1, .int 0, .int 0, .int 0, .ref (k 0), .null, .int 0, .int 0, .int 0, .int 0, .int 0, .int 0, .int 0])), (q_1, .inl (g_2, 200, .inl (fun _ => 0)))] H := hP
  have hD : va_D A [(o, .inr (3, [.ref tk, .ref q_1, .int 0, .int 0, .int 0, .ref (k 0), .null, .int 0, .int 0, .int 0, .int 0, .int 0, .int 0, .int 0])), (q_1, .inl (g_2, 200, .inl (fun _ => 0)))] := hD
  refine lv_aload_n hx hb d_G_init_25 rfl (lv_at hl 0 rfl) ?_
  refine va_gets hx hb (ke_W_NONE hE) hS hown (ht _ k_158) (fun _ h9 => h9) d_G_init_26 ?_
  refine va_put (D := (dC, dI)) (ci := 3) (v := .ref (k 0)) (ty := .object "SieveDesk$Word") (C := "SieveDesk$Grammar") (T := F_G) (N := 14) hx hb ht i_G ty_G ty_G_ok n_G hown hK hP hD hS 0 rfl rfl 6 (by decide) (ht _ k_166) (fun _ h9 => h9) rfl (ty_G_ok 6 (by decide)) rfl rfl (Nat.le_of_ble_eq_true rfl) d_G_init_29 (fun H locs hP hD hS => ?_)
  have hP : va_P (dC, dI) cls [(o, .inr (3, [.ref tk, .ref q_1, .int 0, .int 0, .int 0, .ref (k 0), .ref (k 0), .int 0, .int 0, .int 0, .int 0, .int 0, .int 0, .int 0])), (q_1, .inl (g_2, 200, .inl (fun _ => 0)))] H := hP
  have hD : va_D A [(o, .inr (3, [.ref tk, .ref q_1, .int 0, .int 0, .int 0, .ref (k 0), .ref (k 0), .int 0, .int 0, .int 0, .int 0, .int 0, .int 0, .int 0])), (q_1, .inl (g_2, 200, .inl (fun _ => 0)))] := hD
  exact W.vret hx hb hr (fun t het hW => ⟨⟨((fun i => match i with | 0 => q_1 | _ => 0), (fun i => match i with | _ => g_2)), rfl, trivial, by rw [het]; exact hP, va_K.moved hW.alike hK, hD⟩, hS.F het⟩) hS.2.2 d_G_init_32
set_option maxHeartbeats 4000000 in
set_option maxRecDepth 100000 in
theorem c_S_init (l : Launch) (dC : Nat → ClassId) (dI : Nat → Nat → Nat) (k : Nat → Nat) (o : Nat) (sz : Nat) : Met l y_S_init (.code y_S_init b_S_init 1 none :: TT) ({ frames := 3, cells := 10, slots := 2429, locals := 53 }) (va_Pc [.ref o] (PX dC dI k [] [(o, .inr (0, [.null, .null, .null, .int 0, .int 0]))] sz)) (va_Qv (fun u : (Nat → Nat) × (Nat → ClassId) => u.1 0 = o) (fun u t => BX dC dI (TE u.2) (va_A [(o, .inr (0, [.null, .null, .null, .int 0, .int 0]))] sz) (WE u.1 u.2 0 (-1) 0 0 0 0 0 0 0 (.ref (k 0)) (.ref (k 0)) 0 0 0 0 0 0 0 (fun _ => 0) (fun _ => 0) (fun _ => 0) (fun _ => none) (fun _ => 0) (fun _ => 0) (fun _ => 0)) t) (va_A [(o, .inr (0, [.null, .null, .null, .int 0, .int 0]))] sz)) 10 2429 (va_A [(o, .inr (0, [.null, .null, .null, .int 0, .int 0]))] sz) := by
  refine Met.ofW (cc := b_S_init) (maxL := 1) (ret := none) (by decide) rfl ?_
  intro p e s m args below meth c s₁ B hml hv
  obtain ⟨rfl, hsz, hE, hP, hK, hD0⟩ := hv
  have hx := B.exec
  have hb := B.bytes
  have hr := B.returns
  have ht : ∀ w ∈ TT, w.before _ s = true := fun w hw => atoms_spec (ws := .code y_S_init b_S_init 1 none :: TT) B.pre w (List.mem_cons_of_mem _ hw)
  have hown : s.vm.findClass "SieveDesk" = some m.cls := findClass_of_methodNamed B.named
  have hlocks := B.notSynchronized
  have hin : meth.name = "<init>" := (name_of_methodNamed B.named B.method).1
  subst hsz
  have hD := hD0.self (sz := s.heap.size)
  generalize hAe : va_A [(o, .inr (0, [.null, .null, .null, .int 0, .int 0]))] s.heap.size = A at hE hD ⊢
  have hA : ∀ q : Nat, s.heap.size ≤ q → A q := fun q h9 => by rw [← hAe]; exact Or.inr h9
  have hS : va_S A s.heap s.heap [] := va_S.rf
  have hl := lv_entry ([.ref o]) (n := 1) (Nat.le_of_ble_eq_true rfl)
  rw [lg_entry_eq]
  generalize (lg_sl ([.ref o]) ++ List.replicate (1 - (lg_sl ([.ref o])).length) Slot.unset).toArray = ls at hl ⊢
  have hl : lv_has ls 1 [(0, .ref o)] := hl
  refine lv_aload_n hx hb d_S_init_0 rfl (lv_at hl 0 rfl) ?_
  refine W.objInit hx hb hown (ht _ k_93) (ht _ k_94) (ht _ k_95) rfl (by rw [hml]; exact hl.1) rfl d_S_init_1 (Nat.le_of_ble_eq_true rfl) (Nat.le_of_ble_eq_true rfl) ?_
  refine W.eq (g2 := F0 m 4 ls []) rfl ?_
  refine lv_aload_n hx hb d_S_init_4 rfl (lv_at hl 0 rfl) ?_
  refine lv_sipush (v := 400) hx hb d_S_init_5 (by decide) ?_
  refine va_newa (atype := .byte) (ty := .byte) (N' := 400) (a0 := (400, .inl (fun _ => 0))) hx hb (ht _ k_117) rfl hK hP hD hS hA (fun _ => rfl) (by decide) (by decide) (by decide) (Nat.le_of_ble_eq_true rfl) (Nat.le_of_ble_eq_true rfl) d_S_init_8 (fun q_1 g_2 H hK hP hD hS => ?_)
  have hP : va_P (dC, dI) cls [(o, .inr (0, [.null, .null, .null, .int 0, .int 0])), (q_1, .inl (g_2, 400, .inl (fun _ => 0)))] H := hP
  have hD : va_D A [(o, .inr (0, [.null, .null, .null, .int 0, .int 0])), (q_1, .inl (g_2, 400, .inl (fun _ => 0)))] := hD
  have hK : va_K (dC, dI) cls [(g_2, .byte)] s := hK
  refine W.widen (k := 1) (n := 400) (by decide) (by decide) ?_
  refine va_putF (D := (dC, dI)) (ci := 0) (v := .ref q_1) (ty := .array .byte) (C := "SieveDesk") (T := F_S) (N := 5) hx hb ht i_S ty_S ty_S_ok n_S hown hK hP hD hS 0 rfl rfl 0 (by decide) (ht _ k_207) (fun _ h9 => h9) rfl hin rfl (ty_S_ok 0 (by decide)) rfl rfl (Nat.le_of_ble_eq_true rfl) d_S_init_10 (fun H locs hP hD hS => ?_)
  have hP : va_P (dC, dI) cls [(o, .inr (0, [.ref q_1, .null, .null, .int 0, .int 0])), (q_1, .inl (g_2, 400, .inl (fun _ => 0)))] H := hP
  have hD : va_D A [(o, .inr (0, [.ref q_1, .null, .null, .int 0, .int 0])), (q_1, .inl (g_2, 400, .inl (fun _ => 0)))] := hD
  refine lv_aload_n hx hb d_S_init_13 rfl (lv_at hl 0 rfl) ?_
  refine va_new (ci := 1) (fs := [.null, .null, .null, .null, .null, .null, .int 0, .int 0, .int 0]) (C := "SieveDesk$Tokens") (T := F_T) (N := 9) hx hb ht i_T ty_T ty_T_ok hown (ht _ k_96) (ht _ k_97) (ht _ k_75) hK hP hD hS hA rfl (by decide +kernel) (Nat.le_of_ble_eq_true rfl) (Nat.le_of_ble_eq_true rfl) d_S_init_14 (fun q_3 H hP hD hS => ?_)
  have hP : va_P (dC, dI) cls [(o, .inr (0, [.ref q_1, .null, .null, .int 0, .int 0])), (q_1, .inl (g_2, 400, .inl (fun _ => 0))), (q_3, .inr (1, [.null, .null, .null, .null, .null, .null, .int 0, .int 0, .int 0]))] H := hP
  have hD : va_D A [(o, .inr (0, [.ref q_1, .null, .null, .int 0, .int 0])), (q_1, .inl (g_2, 400, .inl (fun _ => 0))), (q_3, .inr (1, [.null, .null, .null, .null, .null, .null, .int 0, .int 0, .int 0]))] := hD
  refine W.widen (k := 2) (n := 409) (by decide) (by decide) ?_
  refine lv_dup hx hb d_S_init_17 rfl ?_
  refine lv_aload_n hx hb d_S_init_18 rfl (lv_at hl 0 rfl) ?_
  refine va_get (D := (dC, dI)) (ci := 0) (v := .ref q_1) (C := "SieveDesk") (T := F_S) (N := 5) hx hb ht i_S hown hK hP 0 rfl rfl 0 (by decide) (ht _ k_207) (fun _ h9 => h9) rfl d_S_init_19 ?_
  have hPc := hP.sub (ws' := [(q_3, .inr (1, [.null, .null, .null, .null, .null, .null, .int 0, .int 0, .int 0]))]) [2] rfl
  have hDc := hD.sub (ws' := [(q_3, .inr (1, [.null, .null, .null, .null, .null, .null, .int 0, .int 0, .int 0]))]) [2] (by decide) rfl
  have hKc := hK.sub (tys' := []) [] rfl
  have hFc := va_free (wc := [(q_3, .inr (1, [.null, .null, .null, .null, .null, .null, .int 0, .int 0, .int 0]))]) hD hS hA [2] rfl
  refine va_callv (va_runI (As := [.ref q_1]) (rest := [.ref q_3, .ref o]) ⟨hx, hb, hml, hown, ht⟩ (c_T_init l dC dI k q_3 q_1 H.size) (cwI 1 ht (g_C k_100) rfl rfl rfl (ht _ k_75) (ht _ k_98) (ht _ k_99) rfl (by decide +kernel) ⟨(Nat.le_of_ble_eq_true rfl), (Nat.le_of_ble_eq_true rfl)⟩) ⟨fb_X, pre_X hE hS hFc hPc hKc hDc⟩ rfl rfl hl.1 rfl (lv_room (Nat.le_of_ble_eq_true rfl)) d_S_init_22 ⟨(Nat.le_of_ble_eq_true rfl), (Nat.le_of_ble_eq_true rfl)⟩) hS (fun q _ h9 => hFc q h9) hFc (fun u_4 t H1 locs het hvm hw hB hz1 hk1 hS => ?_)
  obtain ⟨hP1, hK1, hD1⟩ := hB
  rw [het] at hP1
  have hK1 := va_K.moved hvm.symm hK1
  obtain ⟨hP, hD⟩ := va_join (wr := [(o, .inr (0, [.ref q_1, .null, .null, .int 0, .int 0])), (q_1, .inl (g_2, 400, .inl (fun _ => 0)))]) (w1 := [(q_3, .inr (1, [.ref q_1, .ref (u_4.1 0), .ref (u_4.1 1), .ref (u_4.1 2), .ref (u_4.1 3), .ref (u_4.1 4), .int 0, .int 0, .int 0])), ((u_4.1 0), .inl ((u_4.2 0), 401, .inl (fun _ => 0))), ((u_4.1 1), .inl ((u_4.2 1), 401, .inl (fun _ => 0))), ((u_4.1 2), .inl ((u_4.2 2), 401, .inr (.inr (.inr (.inr (fun _ => none)))))), ((u_4.1 3), .inl ((u_4.2 3), 401, .inl (fun _ => 0))), ((u_4.1 4), .inr (2, [.ref (u_4.1 5), .int 0])), ((u_4.1 5), .inl ((u_4.2 4), 200, .inl (fun _ => 0)))]) hP hD [2] [0, 1] rfl rfl (by decide) (by decide) hk1 hFc hP1 hD1
  have hK := hK.app hK1
  generalize H1 = H at hP hS ⊢
  have hP : va_P (dC, dI) cls [(o, .inr (0, [.ref q_1, .null, .null, .int 0, .int 0])), (q_1, .inl (g_2, 400, .inl (fun _ => 0))), (q_3, .inr (1, [.ref q_1, .ref (u_4.1 0), .ref (u_4.1 1), .ref (u_4.1 2), .ref (u_4.1 3), .ref (u_4.1 4), .int 0, .int 0, .int 0])), ((u_4.1 0), .inl ((u_4.2 0), 401, .inl (fun _ => 0))), ((u_4.1 1), .inl ((u_4.2 1), 401, .inl (fun _ => 0))), ((u_4.1 2), .inl ((u_4.2 2), 401, .inr (.inr (.inr (.inr (fun _ => none)))))), ((u_4.1 3), .inl ((u_4.2 3), 401, .inl (fun _ => 0))), ((u_4.1 4), .inr (2, [.ref (u_4.1 5), .int 0])), ((u_4.1 5), .inl ((u_4.2 4), 200, .inl (fun _ => 0)))] H := hP
  have hD : va_D A [(o, .inr (0, [.ref q_1, .null, .null, .int 0, .int 0])), (q_1, .inl (g_2, 400, .inl (fun _ => 0))), (q_3, .inr (1, [.ref q_1, .ref (u_4.1 0), .ref (u_4.1 1), .ref (u_4.1 2), .ref (u_4.1 3), .ref (u_4.1 4), .int 0, .int 0, .int 0])), ((u_4.1 0), .inl ((u_4.2 0), 401, .inl (fun _ => 0))), ((u_4.1 1), .inl ((u_4.2 1), 401, .inl (fun _ => 0))), ((u_4.1 2), .inl ((u_4.2 2), 401, .inr (.inr (.inr (.inr (fun _ => none)))))), ((u_4.1 3), .inl ((u_4.2 3), 401, .inl (fun _ => 0))), ((u_4.1 4), .inr (2, [.ref (u_4.1 5), .int 0])), ((u_4.1 5), .inl ((u_4.2 4), 200, .inl (fun _ => 0)))] := hD
  have hK : va_K (dC, dI) cls [(g_2, .byte), ((u_4.2 0), .int), ((u_4.2 1), .int), ((u_4.2 2), .object "SieveDesk$Word"), ((u_4.2 3), .int), ((u_4.2 4), .byte)] s := hK
  refine W.widen (k := 8) (n := 2215) (by decide) (by decide) ?_
  refine va_putF (D := (dC, dI)) (ci := 0) (v := .ref q_3) (ty := .object "SieveDesk$Tokens") (C := "SieveDesk") (T := F_S) (N := 5) hx hb ht i_S ty_S ty_S_ok n_S hown hK hP hD hS 0 rfl rfl 1 (by decide) (ht _ k_208) (fun _ h9 => h9) rfl hin rfl (ty_S_ok 1 (by decide)) rfl rfl (Nat.le_of_ble_eq_true rfl) d_S_init_25 (fun H locs hP hD hS => ?_)
  have hP : va_P (dC, dI) cls [(o, .inr (0, [.ref q_1, .ref q_3, .null, .int 0, .int 0])), (q_1, .inl (g_2, 400, .inl (fun _ => 0))), (q_3, .inr (1, [.ref q_1, .ref (u_4.1 0), .ref (u_4.1 1), .ref (u_4.1 2), .ref (u_4.1 3), .ref (u_4.1 4), .int 0, .int 0, .int 0])), ((u_4.1 0), .inl ((u_4.2 0), 401, .inl (fun _ => 0))), ((u_4.1 1), .inl ((u_4.2 1), 401, .inl (fun _ => 0))), ((u_4.1 2), .inl ((u_4.2 2), 401, .inr (.inr (.inr (.inr (fun _ => none)))))), ((u_4.1 3), .inl ((u_4.2 3), 401, .inl (fun _ => 0))), ((u_4.1 4), .inr (2, [.ref (u_4.1 5), .int 0])), ((u_4.1 5), .inl ((u_4.2 4), 200, .inl (fun _ => 0)))] H := hP
  have hD : va_D A [(o, .inr (0, [.ref q_1, .ref q_3, .null, .int 0, .int 0])), (q_1, .inl (g_2, 400, .inl (fun _ => 0))), (q_3, .inr (1, [.ref q_1, .ref (u_4.1 0), .ref (u_4.1 1), .ref (u_4.1 2), .ref (u_4.1 3), .ref (u_4.1 4), .int 0, .int 0, .int 0])), ((u_4.1 0), .inl ((u_4.2 0), 401, .inl (fun _ => 0))), ((u_4.1 1), .inl ((u_4.2 1), 401, .inl (fun _ => 0))), ((u_4.1 2), .inl ((u_4.2 2), 401, .inr (.inr (.inr (.inr (fun _ => none)))))), ((u_4.1 3), .inl ((u_4.2 3), 401, .inl (fun _ => 0))), ((u_4.1 4), .inr (2, [.ref (u_4.1 5), .int 0])), ((u_4.1 5), .inl ((u_4.2 4), 200, .inl (fun _ => 0)))] := hD
  refine lv_aload_n hx hb d_S_init_28 rfl (lv_at hl 0 rfl) ?_
  refine va_new (ci := 3) (fs := [.null, .null, .int 0, .int 0, .int 0, .null, .null, .int 0, .int 0, .int 0, .int 0, .int 0, .int 0, .int 0]) (C := "SieveDesk$Grammar") (T := F_G) (N := 14) hx hb ht i_G ty_G ty_G_ok hown (ht _ k_152) (ht _ k_153) (ht _ k_77) hK hP hD hS hA rfl (by decide +kernel) (Nat.le_of_ble_eq_true rfl) (Nat.le_of_ble_eq_true rfl) d_S_init_29 (fun q_5 H hP hD hS => ?_)
  have hP : va_P (dC, dI) cls [(o, .inr (0, [.ref q_1, .ref q_3, .null, .int 0, .int 0])), (q_1, .inl (g_2, 400, .inl (fun _ => 0))), (q_3, .inr (1, [.ref q_1, .ref (u_4.1 0), .ref (u_4.1 1), .ref (u_4.1 2), .ref (u_4.1 3), .ref (u_4.1 4), .int 0, .int 0, .int 0])), ((u_4.1 0), .inl ((u_4.2 0), 401, .inl (fun _ => 0))), ((u_4.1 1), .inl ((u_4.2 1), 401, .inl (fun _ => 0))), ((u_4.1 2), .inl ((u_4.2 2), 401, .inr (.inr (.inr (.inr (fun _ => none)))))), ((u_4.1 3), .inl ((u_4.2 3), 401, .inl (fun _ => 0))), ((u_4.1 4), .inr (2, [.ref (u_4.1 5), .int 0])), ((u_4.1 5), .inl ((u_4.2 4), 200, .inl (fun _ => 0))), (q_5, .inr (3, [.null, .null, .int 0, .int 0, .int 0, .null, .null, .int 0, .int 0, .int 0, .int 0, .int 0, .int 0, .int 0]))] H := hP
  have hD : va_D A [(o, .inr (0, [.ref q_1, .ref q_3, .null, .int 0, .int 0])), (q_1, .inl (g_2, 400, .inl (fun _ => 0))), (q_3, .inr (1, [.ref q_1, .ref (u_4.1 0), .ref (u_4.1 1), .ref (u_4.1 2), .ref (u_4.1 3), .ref (u_4.1 4), .int 0, .int 0, .int 0])), ((u_4.1 0), .inl ((u_4.2 0), 401, .inl (fun _ => 0))), ((u_4.1 1), .inl ((u_4.2 1), 401, .inl (fun _ => 0))), ((u_4.1 2), .inl ((u_4.2 2), 401, .inr (.inr (.inr (.inr (fun _ => none)))))), ((u_4.1 3), .inl ((u_4.2 3), 401, .inl (fun _ => 0))), ((u_4.1 4), .inr (2, [.ref (u_4.1 5), .int 0])), ((u_4.1 5), .inl ((u_4.2 4), 200, .inl (fun _ => 0))), (q_5, .inr (3, [.null, .null, .int 0, .int 0, .int 0, .null, .null, .int 0, .int 0, .int 0, .int 0, .int 0, .int 0, .int 0]))] := hD
  refine W.widen (k := 9) (n := 2229) (by decide) (by decide) ?_
  refine lv_dup hx hb d_S_init_32 rfl ?_
  refine lv_aload_n hx hb d_S_init_33 rfl (lv_at hl 0 rfl) ?_
  refine va_get (D := (dC, dI)) (ci := 0) (v := .ref q_3) (C := "SieveDesk") (T := F_S) (N := 5) hx hb ht i_S hown hK hP 0 rfl rfl 1 (by decide) (ht _ k_208) (fun _ h9 => h9) rfl d_S_init_34 ?_
  have hPc := hP.sub (ws' := [(q_5, .inr (3, [.null, .null, .int 0, .int 0, .int 0, .null, .null, .int 0, .int 0, .int 0, .int 0, .int 0, .int 0, .int 0]))]) [9] rfl
  have hDc := hD.sub (ws' := [(q_5, .inr (3, [.null, .null, .int 0, .int 0, .int 0, .null, .null, .int 0, .int 0, .int 0, .int 0, .int 0, .int 0, .int 0]))]) [9] (by decide) rfl
  have hKc := hK.sub (tys' := []) [] rfl
  have hFc := va_free (wc := [(q_5, .inr (3, [.null, .null, .int 0, .int 0, .int 0, .null, .null, .int 0, .int 0, .int 0, .int 0, .int 0, .int 0, .int 0]))]) hD hS hA [9] rfl
  refine va_callv (va_runI (As := [.ref q_3]) (rest := [.ref q_5, .ref o]) ⟨hx, hb, hml, hown, ht⟩ (c_G_init l dC dI k q_5 q_3 H.size) (cwI 1 ht (g_C k_156) rfl rfl rfl (ht _ k_77) (ht _ k_154) (ht _ k_155) rfl (by decide +kernel) ⟨(Nat.le_of_ble_eq_true rfl), (Nat.le_of_ble_eq_true rfl)⟩) ⟨fb_X, pre_X hE hS hFc hPc hKc hDc⟩ rfl rfl hl.1 rfl (lv_room (Nat.le_of_ble_eq_true rfl)) d_S_init_37 ⟨(Nat.le_of_ble_eq_true rfl), (Nat.le_of_ble_eq_true rfl)⟩) hS (fun q _ h9 => hFc q h9) hFc (fun u_6 t H1 locs het hvm hw hB hz1 hk1 hS => ?_)
  obtain ⟨hP1, hK1, hD1⟩ := hB
  rw [het] at hP1
  have hK1 := va_K.moved hvm.symm hK1
  obtain ⟨hP, hD⟩ := va_join (wr := [(o, .inr (0, [.ref q_1, .ref q_3, .null, .int 0, .int 0])), (q_1, .inl (g_2, 400, .inl (fun _ => 0))), (q_3, .inr (1, [.ref q_1, .ref (u_4.1 0), .ref (u_4.1 1), .ref (u_4.1 2), .ref (u_4.1 3), .ref (u_4.1 4), .int 0, .int 0, .int 0])), ((u_4.1 0), .inl ((u_4.2 0), 401, .inl (fun _ => 0))), ((u_4.1 1), .inl ((u_4.2 1), 401, .inl (fun _ => 0))), ((u_4.1 2), .inl ((u_4.2 2), 401, .inr (.inr (.inr (.inr (fun _ => none)))))), ((u_4.1 3), .inl ((u_4.2 3), 401, .inl (fun _ => 0))), ((u_4.1 4), .inr (2, [.ref (u_4.1 5), .int 0])), ((u_4.1 5), .inl ((u_4.2 4), 200, .inl (fun _ => 0)))]) (w1 := [(q_5, .inr (3, [.ref q_3, .ref (u_6.1 0), .int 0, .int 0, .int 0, .ref (k 0), .ref (k 0), .int 0, .int 0, .int 0, .int 0, .int 0, .int 0, .int 0])), ((u_6.1 0), .inl ((u_6.2 0), 200, .inl (fun _ => 0)))]) hP hD [9] [0, 1, 2, 3, 4, 5, 6, 7, 8] rfl rfl (by decide) (by decide) hk1 hFc hP1 hD1
  have hK := hK.app hK1
  generalize H1 = H at hP hS ⊢
  have hP : va_P (dC, dI) cls [(o, .inr (0, [.ref q_1, .ref q_3, .null, .int 0, .int 0])), (q_1, .inl (g_2, 400, .inl (fun _ => 0))), (q_3, .inr (1, [.ref q_1, .ref (u_4.1 0), .ref (u_4.1 1), .ref (u_4.1 2), .ref (u_4.1 3), .ref (u_4.1 4), .int 0, .int 0, .int 0])), ((u_4.1 0), .inl ((u_4.2 0), 401, .inl (fun _ => 0))), ((u_4.1 1), .inl ((u_4.2 1), 401, .inl (fun _ => 0))), ((u_4.1 2), .inl ((u_4.2 2), 401, .inr (.inr (.inr (.inr (fun _ => none)))))), ((u_4.1 3), .inl ((u_4.2 3), 401, .inl (fun _ => 0))), ((u_4.1 4), .inr (2, [.ref (u_4.1 5), .int 0])), ((u_4.1 5), .inl ((u_4.2 4), 200, .inl (fun _ => 0))), (q_5, .inr (3, [.ref q_3, .ref (u_6.1 0), .int 0, .int 0, .int 0, .ref (k 0), .ref (k 0), .int 0, .int 0, .int 0, .int 0, .int 0, .int 0, .int 0])), ((u_6.1 0), .inl ((u_6.2 0), 200, .inl (fun _ => 0)))] H := hP
  have hD : va_D A [(o, .inr (0, [.ref q_1, .ref q_3, .null, .int 0, .int 0])), (q_1, .inl (g_2, 400, .inl (fun _ => 0))), (q_3, .inr (1, [.ref q_1, .ref (u_4.1 0), .ref (u_4.1 1), .ref (u_4.1 2), .ref (u_4.1 3), .ref (u_4.1 4), .int 0, .int 0, .int 0])), ((u_4.1 0), .inl ((u_4.2 0), 401, .inl (fun _ => 0))), ((u_4.1 1), .inl ((u_4.2 1), 401, .inl (fun _ => 0))), ((u_4.1 2), .inl ((u_4.2 2), 401, .inr (.inr (.inr (.inr (fun _ => none)))))), ((u_4.1 3), .inl ((u_4.2 3), 401, .inl (fun _ => 0))), ((u_4.1 4), .inr (2, [.ref (u_4.1 5), .int 0])), ((u_4.1 5), .inl ((u_4.2 4), 200, .inl (fun _ => 0))), (q_5, .inr (3, [.ref q_3, .ref (u_6.1 0), .int 0, .int 0, .int 0, .ref (k 0), .ref (k 0), .int 0, .int 0, .int 0, .int 0, .int 0, .int 0, .int 0])), ((u_6.1 0), .inl ((u_6.2 0), 200, .inl (fun _ => 0)))] := hD
  have hK : va_K (dC, dI) cls [(g_2, .byte), ((u_4.2 0), .int), ((u_4.2 1), .int), ((u_4.2 2), .object "SieveDesk$Word"), ((u_4.2 3), .int), ((u_4.2 4), .byte), ((u_6.2 0), .char)] s := hK
  refine W.widen (k := 10) (n := 2429) (by decide) (by decide) ?_
  refine va_putF (D := (dC, dI)) (ci := 0) (v := .ref q_5) (ty := .object "SieveDesk$Grammar") (C := "SieveDesk") (T := F_S) (N := 5) hx hb ht i_S ty_S ty_S_ok n_S hown hK hP hD hS 0 rfl rfl 2 (by decide) (ht _ k_209) (fun _ h9 => h9) rfl hin rfl (ty_S_ok 2 (by decide)) rfl rfl (Nat.le_of_ble_eq_true rfl) d_S_init_40 (fun H locs hP hD hS => ?_)
  have hP : va_P (dC, dI) cls [(o, .inr (0, [.ref q_1, .ref q_3, .ref q_5, .int 0, .int 0])), (q_1, .inl (g_2, 400, .inl (fun _ => 0))), (q_3, .inr (1, [.ref q_1, .ref (u_4.1 0), .ref (u_4.1 1), .ref (u_4.1 2), .ref (u_4.1 3), .ref (u_4.1 4), .int 0, .int 0, .int 0])), ((u_4.1 0), .inl ((u_4.2 0), 401, .inl (fun _ => 0))), ((u_4.1 1), .inl ((u_4.2 1), 401, .inl (fun _ => 0))), ((u_4.1 2), .inl ((u_4.2 2), 401, .inr (.inr (.inr (.inr (fun _ => none)))))), ((u_4.1 3), .inl ((u_4.2 3), 401, .inl (fun _ => 0))), ((u_4.1 4), .inr (2, [.ref (u_4.1 5), .int 0])), ((u_4.1 5), .inl ((u_4.2 4), 200, .inl (fun _ => 0))), (q_5, .inr (3, [.ref q_3, .ref (u_6.1 0), .int 0, .int 0, .int 0, .ref (k 0), .ref (k 0), .int 0, .int 0, .int 0, .int 0, .int 0, .int 0, .int 0])), ((u_6.1 0), .inl ((u_6.2 0), 200, .inl (fun _ => 0)))] H := hP
  have hD : va_D A [(o, .inr (0, [.ref q_1, .ref q_3, .ref q_5, .int 0, .int 0])), (q_1, .inl (g_2, 400, .inl (fun _ => 0))), (q_3, .inr (1, [.ref q_1, .ref (u_4.1 0), .ref (u_4.1 1), .ref (u_4.1 2), .ref (u_4.1 3), .ref (u_4.1 4), .int 0, .int 0, .int 0])), ((u_4.1 0), .inl ((u_4.2 0), 401, .inl (fun _ => 0))), ((u_4.1 1), .inl ((u_4.2 1), 401, .inl (fun _ => 0))), ((u_4.1 2), .inl ((u_4.2 2), 401, .inr (.inr (.inr (.inr (fun _ => none)))))), ((u_4.1 3), .inl ((u_4.2 3), 401, .inl (fun _ => 0))), ((u_4.1 4), .inr (2, [.ref (u_4.1 5), .int 0])), ((u_4.1 5), .inl ((u_4.2 4), 200, .inl (fun _ => 0))), (q_5, .inr (3, [.ref q_3, .ref (u_6.1 0), .int 0, .int 0, .int 0, .ref (k 0), .ref (k 0), .int 0, .int 0, .int 0, .int 0, .int 0, .int 0, .int 0])), ((u_6.1 0), .inl ((u_6.2 0), 200, .inl (fun _ => 0)))] := hD
  refine lv_aload_n hx hb d_S_init_43 rfl (lv_at hl 0 rfl) ?_
  refine lv_iconst (v := 0) hx hb d_S_init_44 (by decide) ?_
  refine va_put (D := (dC, dI)) (ci := 0) (v := .int 0) (ty := .int) (C := "SieveDesk") (T := F_S) (N := 5) hx hb ht i_S ty_S ty_S_ok n_S hown hK hP hD hS 0 rfl rfl 3 (by decide) (ht _ k_210) (fun _ h9 => h9) rfl (ty_S_ok 3 (by decide)) rfl rfl (Nat.le_of_ble_eq_true rfl) d_S_init_45 (fun H locs hP hD hS => ?_)
  have hP : va_P (dC, dI) cls [(o, .inr (0, [.ref q_1, .ref q_3, .ref q_5, .int 0, .int 0])), (q_1, .inl (g_2, 400, .inl (fun _ => 0))), (q_3, .inr (1, [.ref q_1, .ref (u_4.1 0), .ref (u_4.1 1), .ref (u_4.1 2), .ref (u_4.1 3), .ref (u_4.1 4), .int 0, .int 0, .int 0])), ((u_4.1 0), .inl ((u_4.2 0), 401, .inl (fun _ => 0))), ((u_4.1 1), .inl ((u_4.2 1), 401, .inl (fun _ => 0))), ((u_4.1 2), .inl ((u_4.2 2), 401, .inr (.inr (.inr (.inr (fun _ => none)))))), ((u_4.1 3), .inl ((u_4.2 3), 401, .inl (fun _ => 0))), ((u_4.1 4), .inr (2, [.ref (u_4.1 5), .int 0])), ((u_4.1 5), .inl ((u_4.2 4), 200, .inl (fun _ => 0))), (q_5, .inr (3, [.ref q_3, .ref (u_6.1 0), .int 0, .int 0, .int 0, .ref (k 0), .ref (k 0), .int 0, .int 0, .int 0, .int 0, .int 0, .int 0, .int 0])), ((u_6.1 0), .inl ((u_6.2 0), 200, .inl (fun _ => 0)))] H := hP
  have hD : va_D A [(o, .inr (0, [.ref q_1, .ref q_3, .ref q_5, .int 0, .int 0])), (q_1, .inl (g_2, 400, .inl (fun _ => 0))), (q_3, .inr (1, [.ref q_1, .ref (u_4.1 0), .ref (u_4.1 1), .ref (u_4.1 2), .ref (u_4.1 3), .ref (u_4.1 4), .int 0, .int 0, .int 0])), ((u_4.1 0), .inl ((u_4.2 0), 401, .inl (fun _ => 0))), ((u_4.1 1), .inl ((u_4.2 1), 401, .inl (fun _ => 0))), ((u_4.1 2), .inl ((u_4.2 2), 401, .inr (.inr (.inr (.inr (fun _ => none)))))), ((u_4.1 3), .inl ((u_4.2 3), 401, .inl (fun _ => 0))), ((u_4.1 4), .inr (2, [.ref (u_4.1 5), .int 0])), ((u_4.1 5), .inl ((u_4.2 4), 200, .inl (fun _ => 0))), (q_5, .inr (3, [.ref q_3, .ref (u_6.1 0), .int 0, .int 0, .int 0, .ref (k 0), .ref (k 0), .int 0, .int 0, .int 0, .int 0, .int 0, .int 0, .int 0])), ((u_6.1 0), .inl ((u_6.2 0), 200, .inl (fun _ => 0)))] := hD
  refine lv_aload_n hx hb d_S_init_48 rfl (lv_at hl 0 rfl) ?_
  refine lv_iconst (v := (-1)) hx hb d_S_init_49 (by decide) ?_
  refine va_put (D := (dC, dI)) (ci := 0) (v := .int (-1)) (ty := .int) (C := "SieveDesk") (T := F_S) (N := 5) hx hb ht i_S ty_S ty_S_ok n_S hown hK hP hD hS 0 rfl rfl 4 (by decide) (ht _ k_211) (fun _ h9 => h9) rfl (ty_S_ok 4 (by decide)) rfl rfl (Nat.le_of_ble_eq_true rfl) d_S_init_50 (fun H locs hP hD hS => ?_)
  have hP : va_P (dC, dI) cls [(o, .inr (0, [.ref q_1, .ref q_3, .ref q_5, .int 0, .int (-1)])), (q_1, .inl (g_2, 400, .inl (fun _ => 0))), (q_3, .inr (1, [.ref q_1, .ref (u_4.1 0), .ref (u_4.1 1), .ref (u_4.1 2), .ref (u_4.1 3), .ref (u_4.1 4), .int 0, .int 0, .int 0])), ((u_4.1 0), .inl ((u_4.2 0), 401, .inl (fun _ => 0))), ((u_4.1 1), .inl ((u_4.2 1), 401, .inl (fun _ => 0))), ((u_4.1 2), .inl ((u_4.2 2), 401, .inr (.inr (.inr (.inr (fun _ => none)))))), ((u_4.1 3), .inl ((u_4.2 3), 401, .inl (fun _ => 0))), ((u_4.1 4), .inr (2, [.ref (u_4.1 5), .int 0])), ((u_4.1 5), .inl ((u_4.2 4), 200, .inl (fun _ => 0))), (q_5, .inr (3, [.ref q_3, .ref (u_6.1 0), .int 0, .int 0, .int 0, .ref (k 0), .ref (k 0), .int 0, .int 0, .int 0, .int 0, .int 0, .int 0, .int 0])), ((u_6.1 0), .inl ((u_6.2 0), 200, .inl (fun _ => 0)))] H := hP
  have hD : va_D A [(o, .inr (0, [.ref q_1, .ref q_3, .ref q_5, .int 0, .int (-1)])), (q_1, .inl (g_2, 400, .inl (fun _ => 0))), (q_3, .inr (1, [.ref q_1, .ref (u_4.1 0), .ref (u_4.1 1), .ref (u_4.1 2), .ref (u_4.1 3), .ref (u_4.1 4), .int 0, .int 0, .int 0])), ((u_4.1 0), .inl ((u_4.2 0), 401, .inl (fun _ => 0))), ((u_4.1 1), .inl ((u_4.2 1), 401, .inl (fun _ => 0))), ((u_4.1 2), .inl ((u_4.2 2), 401, .inr (.inr (.inr (.inr (fun _ => none)))))), ((u_4.1 3), .inl ((u_4.2 3), 401, .inl (fun _ => 0))), ((u_4.1 4), .inr (2, [.ref (u_4.1 5), .int 0])), ((u_4.1 5), .inl ((u_4.2 4), 200, .inl (fun _ => 0))), (q_5, .inr (3, [.ref q_3, .ref (u_6.1 0), .int 0, .int 0, .int 0, .ref (k 0), .ref (k 0), .int 0, .int 0, .int 0, .int 0, .int 0, .int 0, .int 0])), ((u_6.1 0), .inl ((u_6.2 0), 200, .inl (fun _ => 0)))] := hD
  exact W.vret hx hb hr (fun t het hW => ⟨⟨((fun i => match i with | 0 => o | 1 => q_1 | 2 => q_3 | 3 => (u_4.1 0) | 4 => (u_4.1 1) | 5 => (u_4.1 2) | 6 => (u_4.1 3) | 7 => (u_4.1 4) | 8 => (u_4.1 5) | 9 => q_5 | 10 => (u_6.1 0) | _ => 0), (fun i => match i with | 0 => g_2 | 1 => (u_4.2 0) | 2 => (u_4.2 1) | 3 => (u_4.2 2) | 4 => (u_4.2 3) | 5 => (u_4.2 4) | _ => (u_6.2 0))), rfl, rfl, by rw [het]; exact hP, va_K.moved hW.alike hK, hD⟩, hS.F het⟩) hS.2.2 d_S_init_53
end
section
def cnt (w a b c d : Int32) : Int32 := if w = 0 then a else if w = 1 then b else if w = 2 then c else if w = 3 then d else -1
theorem sw_out {x : Int32} (h0 : ¬ x = 0) (h1 : ¬ x = 1) (h2 : ¬ x = 2) (h3 : ¬ x = 3) : x.toInt < 0 ∨ 3 < x.toInt := by
  have f : ∀ n : Int32, ¬ x = n → x.toInt ≠ n.toInt := fun n h e => h (Int32.toInt_inj.mp e)
  have f0 := f 0 h0
  have f1 := f 1 h1
  have f2 := f 2 h2
  have f3 := f 3 h3
  simp at f0 f1 f2 f3
  omega
set_option maxHeartbeats 4000000 in
set_option maxRecDepth 100000 in
theorem c_S_place (l : Launch) (dC : Nat → ClassId) (dI : Nat → Nat → Nat) (k : Nat → Nat) (h : Nat → Nat) (g : Nat → ClassId) (len fp many tlen tat qlen md gat kind gs th st rq bl te og : Int32) (wd tg : Value) (sc kd sr sa qb du : Nat → Int32) (wo : Nat → Option Nat) (sz : Nat) : Met l y_S_place (.code y_S_place b_S_place 1 (some .int) :: TT) ({ frames := 0, cells := 0, slots := 0, locals := 0 }) (va_Pc [.ref (h 0)] (PX dC dI k (TE g) (WE h g len fp many tlen tat qlen md gat kind wd tg gs th st rq bl te og sc kd sr wo sa qb du) sz)) (va_Qi (fun (r : Int32) (_ : Unit) => r = fp) (fun _ t => BX dC dI (TE g) (va_A (WE h g len fp many tlen tat qlen md gat kind wd tg gs th st rq bl te og sc kd sr wo sa qb du) sz) (WE h g len fp many tlen tat qlen md gat kind wd tg gs th st rq bl te og sc kd sr wo sa qb du) t) (va_A (WE h g len fp many tlen tat qlen md gat kind wd tg gs th st rq bl te og sc kd sr wo sa qb du) sz)) 0 0 (va_A (WE h g len fp many tlen tat qlen md gat kind wd tg gs th st rq bl te og sc kd sr wo sa qb du) sz) := by
  refine Met.ofW (cc := b_S_place) (maxL := 1) (ret := (some .int)) (by decide) rfl ?_
  intro p e s m args below meth c s₁ B hml hv
  obtain ⟨rfl, hsz, hE, hP, hK, hD0⟩ := hv
  have hx := B.exec
  have hb := B.bytes
  have hr := B.returns
  have ht : ∀ w ∈ TT, w.before _ s = true := fun w hw => atoms_spec (ws := .code y_S_place b_S_place 1 (some .int) :: TT) B.pre w (List.mem_cons_of_mem _ hw)
  have hown : s.vm.findClass "SieveDesk" = some m.cls := findClass_of_methodNamed B.named
  have hlocks := B.notSynchronized
  subst hsz
  have hD := hD0.self (sz := s.heap.size)
  generalize hAe : va_A (WE h g len fp many tlen tat qlen md gat kind wd tg gs th st rq bl te og sc kd sr wo sa qb du) s.heap.size = A at hE hD ⊢
  have hA : ∀ q : Nat, s.heap.size ≤ q → A q := fun q h9 => by rw [← hAe]; exact Or.inr h9
  have hS : va_S A s.heap s.heap [] := va_S.rf
  have hl := lv_entry ([.ref (h 0)]) (n := 1) (Nat.le_of_ble_eq_true rfl)
  rw [lg_entry_eq]
  generalize (lg_sl ([.ref (h 0)]) ++ List.replicate (1 - (lg_sl ([.ref (h 0)])).length) Slot.unset).toArray = ls at hl ⊢
  have hl : lv_has ls 1 [(0, .ref (h 0))] := hl
  refine lv_aload_n hx hb d_S_place_0 rfl (lv_at hl 0 rfl) ?_
  refine va_get (D := (dC, dI)) (ci := 0) (v := .int fp) (C := "SieveDesk") (T := F_S) (N := 5) hx hb ht i_S hown hK hP 0 rfl rfl 4 (by decide) (ht _ k_211) (fun _ h9 => h9) rfl d_S_place_1 ?_
  exact W.iret (v := fp) hx hb hr (fun t het hW => ⟨⟨fp, (), rfl, rfl, by rw [het]; exact hP, va_K.moved hW.alike hK, hD⟩, hS.F het⟩) hS.2.2 d_S_place_4
set_option maxHeartbeats 4000000 in
set_option maxRecDepth 100000 in
theorem c_M_place (l : Launch) (dC : Nat → ClassId) (dI : Nat → Nat → Nat) (k : Nat → Nat) (h : Nat → Nat) (g : Nat → ClassId) (ss sa so pl si fa li co st rq bl te op : Int32) (wo le : Nat → Int64) (wz sr tx ro : Nat → Int32) (sz : Nat) : Met l y_M_place (.code y_M_place b_M_place 1 (some .int) :: TT) ({ frames := 0, cells := 0, slots := 0, locals := 0 }) (va_Pc [.ref (h 0)] (PX dC dI k (TM g) (ME h g ss sa so pl si fa li co st rq bl te op wo wz sr le tx ro) sz)) (va_Qi (fun (r : Int32) (_ : Unit) => r = fa) (fun _ t => BX dC dI (TM g) (va_A (ME h g ss sa so pl si fa li co st rq bl te op wo wz sr le tx ro) sz) (ME h g ss sa so pl si fa li co st rq bl te op wo wz sr le tx ro) t) (va_A (ME h g ss sa so pl si fa li co st rq bl te op wo wz sr le tx ro) sz)) 0 0 (va_A (ME h g ss sa so pl si fa li co st rq bl te op wo wz sr le tx ro) sz) := by
  refine Met.ofW (cc := b_M_place) (maxL := 1) (ret := (some .int)) (by decide) rfl ?_
  intro p e s m args below meth c s₁ B hml hv
  obtain ⟨rfl, hsz, hE, hP, hK, hD0⟩ := hv
  have hx := B.exec
  have hb := B.bytes
  have hr := B.returns
  have ht : ∀ w ∈ TT, w.before _ s = true := fun w hw => atoms_spec (ws := .code y_M_place b_M_place 1 (some .int) :: TT) B.pre w (List.mem_cons_of_mem _ hw)
  have hown : s.vm.findClass "SieveDeskModel" = some m.cls := findClass_of_methodNamed B.named
  have hlocks := B.notSynchronized
  subst hsz
  have hD := hD0.self (sz := s.heap.size)
  generalize hAe : va_A (ME h g ss sa so pl si fa li co st rq bl te op wo wz sr le tx ro) s.heap.size = A at hE hD ⊢
  have hA : ∀ q : Nat, s.heap.size ≤ q → A q := fun q h9 => by rw [← hAe]; exact Or.inr h9
  have hS : va_S A s.heap s.heap [] := va_S.rf
  have hl := lv_entry ([.ref (h 0)]) (n := 1) (Nat.le_of_ble_eq_true rfl)
  rw [lg_entry_eq]
  generalize (lg_sl ([.ref (h 0)]) ++ List.replicate (1 - (lg_sl ([.ref (h 0)])).length) Slot.unset).toArray = ls at hl ⊢
  have hl : lv_has ls 1 [(0, .ref (h 0))] := hl
  refine lv_aload_n hx hb d_M_place_0 rfl (lv_at hl 0 rfl) ?_
  refine va_get (D := (dC, dI)) (ci := 4) (v := .int fa) (C := "SieveDeskModel") (T := F_M) (N := 19) hx hb ht i_M hown hK hP 0 rfl rfl 10 (by decide) (ht _ k_637) (fun _ h9 => h9) rfl d_M_place_1 ?_
  exact W.iret (v := fa) hx hb hr (fun t het hW => ⟨⟨fa, (), rfl, rfl, by rw [het]; exact hP, va_K.moved hW.alike hK, hD⟩, hS.F het⟩) hS.2.2 d_M_place_4
set_option maxHeartbeats 4000000 in
set_option maxRecDepth 100000 in
theorem c_S_count (l : Launch) (dC : Nat → ClassId) (dI : Nat → Nat → Nat) (k : Nat → Nat) (h : Nat → Nat) (g : Nat → ClassId) (len fp many tlen tat qlen md gat kind gs th st rq bl te og : Int32) (wd tg : Value) (sc kd sr sa qb du : Nat → Int32) (wo : Nat → Option Nat) (q : Int32) (sz : Nat) : Met l y_S_count (.code y_S_count b_S_count 2 (some .int) :: TT) ({ frames := 0, cells := 0, slots := 0, locals := 0 }) (va_Pc [.ref (h 0), .int q] (PX dC dI k (TE g) (WE h g len fp many tlen tat qlen md gat kind wd tg gs th st rq bl te og sc kd sr wo sa qb du) sz)) (va_Qi (fun (r : Int32) (u : Unit) => r = cnt q len th st rq) (fun u t => BX dC dI (TE g) (va_A (WE h g len fp many tlen tat qlen md gat kind wd tg gs th st rq bl te og sc kd sr wo sa qb du) sz) (WE h g len fp many tlen tat qlen md gat kind wd tg gs th st rq bl te og sc kd sr wo sa qb du) t) (va_A (WE h g len fp many tlen tat qlen md gat kind wd tg gs th st rq bl te og sc kd sr wo sa qb du) sz)) 0 0 (va_A (WE h g len fp many tlen tat qlen md gat kind wd tg gs th st rq bl te og sc kd sr wo sa qb du) sz) := by
  refine Met.ofW (cc := b_S_count) (maxL := 2) (ret := (some .int)) (by decide) rfl ?_
  intro p e s m args below meth c s₁ B hml hv
  obtain ⟨rfl, hsz, hE, hP, hK, hD0⟩ := hv
  have hx := B.exec
  have hb := B.bytes
  have hr := B.returns
  have ht : ∀ w ∈ TT, w.before _ s = true := fun w hw => atoms_spec (ws := .code y_S_count b_S_count 2 (some .int) :: TT) B.pre w (List.mem_cons_of_mem _ hw)
  have hown : s.vm.findClass "SieveDesk" = some m.cls := findClass_of_methodNamed B.named
  have hlocks := B.notSynchronized
  subst hsz
  have hD := hD0.self (sz := s.heap.size)
  generalize hAe : va_A (WE h g len fp many tlen tat qlen md gat kind wd tg gs th st rq bl te og sc kd sr wo sa qb du) s.heap.size = A at hE hD ⊢
  have hA : ∀ q : Nat, s.heap.size ≤ q → A q := fun q h9 => by rw [← hAe]; exact Or.inr h9
  have hS : va_S A s.heap s.heap [] := va_S.rf
  have hl := lv_entry ([.ref (h 0), .int q]) (n := 2) (Nat.le_of_ble_eq_true rfl)
  rw [lg_entry_eq]
  generalize (lg_sl ([.ref (h 0), .int q]) ++ List.replicate (2 - (lg_sl ([.ref (h 0), .int q])).length) Slot.unset).toArray = ls at hl ⊢
  have hl : lv_has ls 2 [(0, .ref (h 0)), (1, .int q)] := hl
  refine lv_iload_n hx hb d_S_count_0 rfl (lv_at hl 1 rfl) ?_
  by_cases e0 : q = 0
  · subst e0
    refine lv_tableIn (off := 31) (tgt := 32) hx hb d_S_count_1 (by decide) (by decide) (by decide) (by decide) ?_
    refine lv_aload_n hx hb d_S_count_32 rfl (lv_at hl 0 rfl) ?_
    refine va_get (D := (dC, dI)) (ci := 0) (v := .int len) (C := "SieveDesk") (T := F_S) (N := 5) hx hb ht i_S hown hK hP 0 rfl rfl 3 (by decide) (ht _ k_210) (fun _ h9 => h9) rfl d_S_count_33 ?_
    exact W.iret (v := len) hx hb hr (fun t het hW => ⟨⟨len, (), rfl, (by simp [cnt]), by rw [het]; exact hP, va_K.moved hW.alike hK, hD⟩, hS.F het⟩) hS.2.2 d_S_count_36
  by_cases e1 : q = 1
  · subst e1
    refine lv_tableIn (off := 36) (tgt := 37) hx hb d_S_count_1 (by decide) (by decide) (by decide) (by decide) ?_
    refine lv_aload_n hx hb d_S_count_37 rfl (lv_at hl 0 rfl) ?_
    refine va_get (D := (dC, dI)) (ci := 0) (v := .ref (h 9)) (C := "SieveDesk") (T := F_S) (N := 5) hx hb ht i_S hown hK hP 0 rfl rfl 2 (by decide) (ht _ k_209) (fun _ h9 => h9) rfl d_S_count_38 ?_
    refine va_getN (D := (dC, dI)) (ci := 3) (v := .int th) (C := "SieveDesk$Grammar") (T := F_G) (N := 14) hx hb ht i_G hown hK hP 9 rfl rfl 8 (by decide) (nw_use n_169 (hE.1 _ n_169)) (fun _ h9 => h9) rfl d_S_count_41 ?_
    exact W.iret (v := th) hx hb hr (fun t het hW => ⟨⟨th, (), rfl, (by simp [cnt]), by rw [het]; exact hP, va_K.moved hW.alike hK, hD⟩, hS.F het⟩) hS.2.2 d_S_count_44
  by_cases e2 : q = 2
  · subst e2
    refine lv_tableIn (off := 44) (tgt := 45) hx hb d_S_count_1 (by decide) (by decide) (by decide) (by decide) ?_
    refine lv_aload_n hx hb d_S_count_45 rfl (lv_at hl 0 rfl) ?_
    refine va_get (D := (dC, dI)) (ci := 0) (v := .ref (h 9)) (C := "SieveDesk") (T := F_S) (N := 5) hx hb ht i_S hown hK hP 0 rfl rfl 2 (by decide) (ht _ k_209) (fun _ h9 => h9) rfl d_S_count_46 ?_
    refine va_getN (D := (dC, dI)) (ci := 3) (v := .int st) (C := "SieveDesk$Grammar") (T := F_G) (N := 14) hx hb ht i_G hown hK hP 9 rfl rfl 9 (by decide) (nw_use n_171 (hE.1 _ n_171)) (fun _ h9 => h9) rfl d_S_count_49 ?_
    exact W.iret (v := st) hx hb hr (fun t het hW => ⟨⟨st, (), rfl, (by simp [cnt]), by rw [het]; exact hP, va_K.moved hW.alike hK, hD⟩, hS.F het⟩) hS.2.2 d_S_count_52
  by_cases e3 : q = 3
  · subst e3
    refine lv_tableIn (off := 52) (tgt := 53) hx hb d_S_count_1 (by decide) (by decide) (by decide) (by decide) ?_
    refine lv_aload_n hx hb d_S_count_53 rfl (lv_at hl 0 rfl) ?_
    refine va_get (D := (dC, dI)) (ci := 0) (v := .ref (h 9)) (C := "SieveDesk") (T := F_S) (N := 5) hx hb ht i_S hown hK hP 0 rfl rfl 2 (by decide) (ht _ k_209) (fun _ h9 => h9) rfl d_S_count_54 ?_
    refine va_getN (D := (dC, dI)) (ci := 3) (v := .int rq) (C := "SieveDesk$Grammar") (T := F_G) (N := 14) hx hb ht i_G hown hK hP 9 rfl rfl 10 (by decide) (nw_use n_173 (hE.1 _ n_173)) (fun _ h9 => h9) rfl d_S_count_57 ?_
    exact W.iret (v := rq) hx hb hr (fun t het hW => ⟨⟨rq, (), rfl, (by simp [cnt]), by rw [het]; exact hP, va_K.moved hW.alike hK, hD⟩, hS.F het⟩) hS.2.2 d_S_count_60
  refine lv_tableOut (tgt := 61) hx hb d_S_count_1 (sw_out e0 e1 e2 e3) (by decide) ?_
  refine lv_iconst (v := (-1)) hx hb d_S_count_61 (by decide) ?_
  exact W.iret (v := (-1)) hx hb hr (fun t het hW => ⟨⟨(-1), (), rfl, (by simp [cnt, e0, e1, e2, e3]), by rw [het]; exact hP, va_K.moved hW.alike hK, hD⟩, hS.F het⟩) hS.2.2 d_S_count_62
set_option maxHeartbeats 4000000 in
set_option maxRecDepth 100000 in
theorem c_M_count (l : Launch) (dC : Nat → ClassId) (dI : Nat → Nat → Nat) (k : Nat → Nat) (h : Nat → Nat) (g : Nat → ClassId) (ss sa so pl si fa li co st rq bl te op : Int32) (wo le : Nat → Int64) (wz sr tx ro : Nat → Int32) (q : Int32) (sz : Nat) : Met l y_M_count (.code y_M_count b_M_count 2 (some .int) :: TT) ({ frames := 0, cells := 0, slots := 0, locals := 0 }) (va_Pc [.ref (h 0), .int q] (PX dC dI k (TM g) (ME h g ss sa so pl si fa li co st rq bl te op wo wz sr le tx ro) sz)) (va_Qi (fun (r : Int32) (u : Unit) => r = cnt q ss co st rq) (fun u t => BX dC dI (TM g) (va_A (ME h g ss sa so pl si fa li co st rq bl te op wo wz sr le tx ro) sz) (ME h g ss sa so pl si fa li co st rq bl te op wo wz sr le tx ro) t) (va_A (ME h g ss sa so pl si fa li co st rq bl te op wo wz sr le tx ro) sz)) 0 0 (va_A (ME h g ss sa so pl si fa li co st rq bl te op wo wz sr le tx ro) sz) := by
  refine Met.ofW (cc := b_M_count) (maxL := 2) (ret := (some .int)) (by decide) rfl ?_
  intro p e s m args below meth c s₁ B hml hv
  obtain ⟨rfl, hsz, hE, hP, hK, hD0⟩ := hv
  have hx := B.exec
  have hb := B.bytes
  have hr := B.returns
  have ht : ∀ w ∈ TT, w.before _ s = true := fun w hw => atoms_spec (ws := .code y_M_count b_M_count 2 (some .int) :: TT) B.pre w (List.mem_cons_of_mem _ hw)
  have hown : s.vm.findClass "SieveDeskModel" = some m.cls := findClass_of_methodNamed B.named
  have hlocks := B.notSynchronized
  subst hsz
  have hD := hD0.self (sz := s.heap.size)
  generalize hAe : va_A (ME h g ss sa so pl si fa li co st rq bl te op wo wz sr le tx ro) s.heap.size = A at hE hD ⊢
  have hA : ∀ q : Nat, s.heap.size ≤ q → A q := fun q h9 => by rw [← hAe]; exact Or.inr h9
  have hS : va_S A s.heap s.heap [] := va_S.rf
  have hl := lv_entry ([.ref (h 0), .int q]) (n := 2) (Nat.le_of_ble_eq_true rfl)
  rw [lg_entry_eq]
  generalize (lg_sl ([.ref (h 0), .int q]) ++ List.replicate (2 - (lg_sl ([.ref (h 0), .int q])).length) Slot.unset).toArray = ls at hl ⊢
  have hl : lv_has ls 2 [(0, .ref (h 0)), (1, .int q)] := hl
  refine lv_iload_n hx hb d_M_count_0 rfl (lv_at hl 1 rfl) ?_
  refine lv_if_ne (tgt := 11) hx hb d_M_count_1 (by decide) (fun c_1 => ?_) (fun c_1 => ?_)
  · refine lv_iload_n hx hb d_M_count_11 rfl (lv_at hl 1 rfl) ?_
    refine lv_iconst (v := 1) hx hb d_M_count_12 (by decide) ?_
    refine lv_icmp_ne (tgt := 23) hx hb d_M_count_13 (by decide) (fun c_2 => ?_) (fun c_2 => ?_)
    · refine lv_iload_n hx hb d_M_count_23 rfl (lv_at hl 1 rfl) ?_
      refine lv_iconst (v := 2) hx hb d_M_count_24 (by decide) ?_
      refine lv_icmp_ne (tgt := 35) hx hb d_M_count_25 (by decide) (fun c_3 => ?_) (fun c_3 => ?_)
      · refine lv_iload_n hx hb d_M_count_35 rfl (lv_at hl 1 rfl) ?_
        refine lv_iconst (v := 3) hx hb d_M_count_36 (by decide) ?_
        refine lv_icmp_ne (tgt := 47) hx hb d_M_count_37 (by decide) (fun c_4 => ?_) (fun c_4 => ?_)
        · refine lv_iconst (v := (-1)) hx hb d_M_count_47 (by decide) ?_
          exact W.iret (v := (-1)) hx hb hr (fun t het hW => ⟨⟨(-1), (), rfl, (by simp [cnt, c_1, c_2, c_3, c_4]), by rw [het]; exact hP, va_K.moved hW.alike hK, hD⟩, hS.F het⟩) hS.2.2 d_M_count_48
        · refine lv_aload_n hx hb d_M_count_40 rfl (lv_at hl 0 rfl) ?_
          refine va_get (D := (dC, dI)) (ci := 4) (v := .int rq) (C := "SieveDeskModel") (T := F_M) (N := 19) hx hb ht i_M hown hK hP 0 rfl rfl 14 (by decide) (ht _ k_641) (fun _ h9 => h9) rfl d_M_count_41 ?_
          refine lv_goto (tgt := 48) hx hb d_M_count_44 (by decide) ?_
          exact W.iret (v := rq) hx hb hr (fun t het hW => ⟨⟨rq, (), rfl, (by simp [cnt, c_1, c_2, c_3, c_4]), by rw [het]; exact hP, va_K.moved hW.alike hK, hD⟩, hS.F het⟩) hS.2.2 d_M_count_48
      · refine lv_aload_n hx hb d_M_count_28 rfl (lv_at hl 0 rfl) ?_
        refine va_get (D := (dC, dI)) (ci := 4) (v := .int st) (C := "SieveDeskModel") (T := F_M) (N := 19) hx hb ht i_M hown hK hP 0 rfl rfl 13 (by decide) (ht _ k_640) (fun _ h9 => h9) rfl d_M_count_29 ?_
        refine lv_goto (tgt := 48) hx hb d_M_count_32 (by decide) ?_
        exact W.iret (v := st) hx hb hr (fun t het hW => ⟨⟨st, (), rfl, (by simp [cnt, c_1, c_2, c_3]), by rw [het]; exact hP, va_K.moved hW.alike hK, hD⟩, hS.F het⟩) hS.2.2 d_M_count_48
    · refine lv_aload_n hx hb d_M_count_16 rfl (lv_at hl 0 rfl) ?_
      refine va_get (D := (dC, dI)) (ci := 4) (v := .int co) (C := "SieveDeskModel") (T := F_M) (N := 19) hx hb ht i_M hown hK hP 0 rfl rfl 12 (by decide) (ht _ k_639) (fun _ h9 => h9) rfl d_M_count_17 ?_
      refine lv_goto (tgt := 48) hx hb d_M_count_20 (by decide) ?_
      exact W.iret (v := co) hx hb hr (fun t het hW => ⟨⟨co, (), rfl, (by simp [cnt, c_1, c_2]), by rw [het]; exact hP, va_K.moved hW.alike hK, hD⟩, hS.F het⟩) hS.2.2 d_M_count_48
  · refine lv_aload_n hx hb d_M_count_4 rfl (lv_at hl 0 rfl) ?_
    refine va_get (D := (dC, dI)) (ci := 4) (v := .int ss) (C := "SieveDeskModel") (T := F_M) (N := 19) hx hb ht i_M hown hK hP 0 rfl rfl 3 (by decide) (ht _ k_630) (fun _ h9 => h9) rfl d_M_count_5 ?_
    refine lv_goto (tgt := 48) hx hb d_M_count_8 (by decide) ?_
    exact W.iret (v := ss) hx hb hr (fun t het hW => ⟨⟨ss, (), rfl, (by simp [cnt, c_1]), by rw [het]; exact hP, va_K.moved hW.alike hK, hD⟩, hS.F het⟩) hS.2.2 d_M_count_48
theorem put_y1 {L j : Nat} {n : Int32} (hL : L ≤ 400) (hj : n = nI j) (hj8 : j ≤ 8) (h : n ≤ 400 - nI L) : L + j ≤ 400 := by
  rw [hj, show (400 : Int32) = nI 400 from rfl, pk_sub hL] at h
  have := (nI_leI (by omega) (by omega)).mp h
  omega
theorem put_n1 {L : Nat} {n : Int32} (hL : L ≤ 400) (h : ¬ n ≤ 400 - nI L) : ∀ L1, ¬ okP L n L1 := fun L1 ⟨j, e, a, b, d, _⟩ => by
  rw [e, show (400 : Int32) = nI 400 from rfl, pk_sub hL] at h
  exact h (nI_le (by omega) (by omega))
theorem put_y2 {L j : Nat} {n : Int32} (hL : L ≤ 400) (hj : n = nI j) (hj8 : j ≤ 8) (h : nI L + n ≤ 400) : L + j ≤ 400 := by
  rw [hj, show (400 : Int32) = nI 400 from rfl, nI_add] at h
  exact (nI_leI (by omega) (by omega)).mp h
theorem put_n2 {L : Nat} {n : Int32} (hL : L ≤ 400) (h : ¬ nI L + n ≤ 400) : ∀ L1, ¬ okP L n L1 := fun L1 ⟨j, e, a, b, d, _⟩ => by
  rw [e, show (400 : Int32) = nI 400 from rfl, nI_add] at h
  exact h (nI_le (by omega) (by omega))
set_option maxHeartbeats 4000000 in
set_option maxRecDepth 100000 in
theorem lp_S_put {p : Program} {l : Launch} {e : Env} {R : Room} {s : State} {m : MethodId} {args : Array Value} {below : List Frame} {meth : Method} {c : Code} {cells slots : Nat} {Q : State → Prop} {A : Nat → Prop} {dC : Nat → ClassId} {dI : Nat → Nat → Nat} {k h : Nat → Nat} {g : Nat → ClassId} (hx : p.tables.exec = Jvm.exec) (hb : c.code = b_S_put) (hml : c.maxLocals = 5) (hown : s.vm.findClass "SieveDesk" = some m.cls) (ht : ∀ w ∈ TT, w.before args s = true) (hE : KE k A s s.heap) (hA : ∀ q : Nat, s.heap.size ≤ q → A q) (hK : va_K (dC, dI) cls (TE g) s) {fp many tlen tat qlen md gat kind gs th st rq bl te og : Int32} {wd tg : Value} {kd sr sa qb du : Nat → Int32} {wo : Nat → Option Nat} {v : Int64} {Le : Nat} (hLe : Le ≤ 400) (ex : ∀ (sc : Nat → Int32) (H : Heap) (locs : List Loc) (ls : Array Slot), va_P (dC, dI) cls (WE h g (nI Le) fp many tlen tat qlen md gat kind wd tg gs th st rq bl te og sc kd sr wo sa qb du) H → va_D A (WE h g (nI Le) fp many tlen tat qlen md gat kind wd tg gs th st rq bl te og sc kd sr wo sa qb du) → va_S A s.heap H locs → lv_has ls 5 [] → W p l e R s m args below meth c H locs cells slots Q (F0 m 69 ls [])) : ∀ (t : Nat) (x4 : Int32) (Lc : Nat) (sc : Nat → Int32), x4 = nI t - 1 → t ≤ 8 → Lc + t = Le → ∀ (H : Heap) (locs : List Loc) (ls : Array Slot), va_P (dC, dI) cls (WE h g (nI Lc) fp many tlen tat qlen md gat kind wd tg gs th st rq bl te og sc kd sr wo sa qb du) H → va_D A (WE h g (nI Lc) fp many tlen tat qlen md gat kind wd tg gs th st rq bl te og sc kd sr wo sa qb du) → va_S A s.heap H locs → lv_has ls 5 [(4, .int x4), (0, .ref (h 0)), (1, .long v)] → W p l e R s m args below meth c H locs cells slots Q (F0 m 30 ls []) := by
  intro t
  induction t with
  | zero =>
    intro x4 Lc sc e4 h8 hLc H locs ls hP hD hS hl
    obtain rfl : x4 = -1 := e4
    obtain rfl : Lc = Le := by omega
    refine lv_iload hx hb d_S_put_30 (lv_at hl 0 rfl) ?_
    refine lv_if_lt (tgt := 69) hx hb d_S_put_32 (by decide) (fun _ => ?_) (fun cn => absurd (by decide) cn)
    exact ex sc H locs ls hP hD hS (lv_sub hl [] rfl)
  | succ t ih =>
    intro x4 Lc sc e4 h8 hLc H locs ls hP hD hS hl
    obtain rfl : x4 = nI t := by rw [e4]; exact nI_pred t
    refine lv_iload hx hb d_S_put_30 (lv_at hl 0 rfl) ?_
    refine lv_if_lt (tgt := 69) hx hb d_S_put_32 (by decide) (fun cn => absurd cn (nI_pos (by omega))) (fun _ => ?_)
    refine lv_aload_n hx hb d_S_put_35 rfl (lv_at hl 1 rfl) ?_
    refine va_get (D := (dC, dI)) (ci := 0) (v := .ref (h 1)) (C := "SieveDesk") (T := F_S) (N := 5) hx hb ht i_S hown hK hP 0 rfl rfl 0 (by decide) (ht _ k_207) (fun _ h9 => h9) rfl d_S_put_36 ?_
    refine lv_aload_n hx hb d_S_put_39 rfl (lv_at hl 1 rfl) ?_
    refine va_get (D := (dC, dI)) (ci := 0) (v := .int (nI Lc)) (C := "SieveDesk") (T := F_S) (N := 5) hx hb ht i_S hown hK hP 0 rfl rfl 3 (by decide) (ht _ k_210) (fun _ h9 => h9) rfl d_S_put_40 ?_
    refine lv_lload_n hx hb d_S_put_43 rfl (lv_at hl 2 rfl) ?_
    refine lv_bipush (v := 8) hx hb d_S_put_44 (by decide) ?_
    refine lv_iload hx hb d_S_put_46 (lv_at hl 0 rfl) ?_
    refine lv_imul hx hb d_S_put_48 ?_
    refine lv_lushr (v := ((Int64.toUInt64 v >>> ((Int32.toInt64 (8 * (nI t))).toUInt64 &&& Int64.toUInt64 63)).toInt64)) hx hb d_S_put_49 rfl ?_
    refine lv_l2i (v := (Int64.toInt32 ((Int64.toUInt64 v >>> ((Int32.toInt64 (8 * (nI t))).toUInt64 &&& Int64.toUInt64 63)).toInt64))) hx hb d_S_put_50 rfl ?_
    refine lv_i2b (v := (Int8.toInt32 (Int32.toInt8 (Int64.toInt32 ((Int64.toUInt64 v >>> ((Int32.toInt64 (8 * (nI t))).toUInt64 &&& Int64.toUInt64 63)).toInt64))))) hx hb d_S_put_51 rfl ?_
    refine va_bast hx hb hK hP hD hS 1 0 rfl rfl (vp_in_nI (by omega) (by omega)) d_S_put_52 (fun H locs hP hD hS => ?_)
    have hP : va_P (dC, dI) cls (WE h g (nI Lc) fp many tlen tat qlen md gat kind wd tg gs th st rq bl te og (upd sc (Int32.toNatClampNeg (nI Lc)) (vp_nar .byte (Int8.toInt32 (Int32.toInt8 (Int64.toInt32 ((Int64.toUInt64 v >>> ((Int32.toInt64 (8 * (nI t))).toUInt64 &&& Int64.toUInt64 63)).toInt64)))))) kd sr wo sa qb du) H := hP
    have hD : va_D A (WE h g (nI Lc) fp many tlen tat qlen md gat kind wd tg gs th st rq bl te og (upd sc (Int32.toNatClampNeg (nI Lc)) (vp_nar .byte (Int8.toInt32 (Int32.toInt8 (Int64.toInt32 ((Int64.toUInt64 v >>> ((Int32.toInt64 (8 * (nI t))).toUInt64 &&& Int64.toUInt64 63)).toInt64)))))) kd sr wo sa qb du) := hD
    refine lv_aload_n hx hb d_S_put_53 rfl (lv_at hl 1 rfl) ?_
    refine lv_dup hx hb d_S_put_54 rfl ?_
    refine va_get (D := (dC, dI)) (ci := 0) (v := .int (nI Lc)) (C := "SieveDesk") (T := F_S) (N := 5) hx hb ht i_S hown hK hP 0 rfl rfl 3 (by decide) (ht _ k_210) (fun _ h9 => h9) rfl d_S_put_55 ?_
    refine lv_iconst (v := 1) hx hb d_S_put_58 (by decide) ?_
    refine lv_iadd hx hb d_S_put_59 ?_
    refine lv_ev (nI_1 (Lc)) ?_
    refine va_put (D := (dC, dI)) (ci := 0) (v := .int (nI (Lc + 1))) (ty := .int) (C := "SieveDesk") (T := F_S) (N := 5) hx hb ht i_S ty_S ty_S_ok n_S hown hK hP hD hS 0 rfl rfl 3 (by decide) (ht _ k_210) (fun _ h9 => h9) rfl (ty_S_ok 3 (by decide)) rfl rfl (Nat.le_of_ble_eq_true rfl) d_S_put_60 (fun H locs hP hD hS => ?_)
    have hP : va_P (dC, dI) cls (WE h g (nI (Lc + 1)) fp many tlen tat qlen md gat kind wd tg gs th st rq bl te og (upd sc (Int32.toNatClampNeg (nI Lc)) (vp_nar .byte (Int8.toInt32 (Int32.toInt8 (Int64.toInt32 ((Int64.toUInt64 v >>> ((Int32.toInt64 (8 * (nI t))).toUInt64 &&& Int64.toUInt64 63)).toInt64)))))) kd sr wo sa qb du) H := hP
    have hD : va_D A (WE h g (nI (Lc + 1)) fp many tlen tat qlen md gat kind wd tg gs th st rq bl te og (upd sc (Int32.toNatClampNeg (nI Lc)) (vp_nar .byte (Int8.toInt32 (Int32.toInt8 (Int64.toInt32 ((Int64.toUInt64 v >>> ((Int32.toInt64 (8 * (nI t))).toUInt64 &&& Int64.toUInt64 63)).toInt64)))))) kd sr wo sa qb du) := hD
    refine lv_iinc (v := ((nI t) + (-1))) (lv' := [(4, .int ((nI t) + (-1))), (0, .ref (h 0)), (1, .long v)]) hx hb d_S_put_63 hl (k := 0) rfl rfl (by decide) rfl (fun ls hl => ?_)
    refine lv_goto (tgt := 30) hx hb d_S_put_66 (by decide) ?_
    exact ih _ (Lc + 1) _ (by rw [Int32.sub_eq_add_neg]) (by omega) (by omega) H locs ls hP hD hS (lv_sub hl [0, 1, 2] rfl)
set_option maxHeartbeats 4000000 in
set_option maxRecDepth 100000 in
theorem c_S_put (l : Launch) (dC : Nat → ClassId) (dI : Nat → Nat → Nat) (k : Nat → Nat) (h : Nat → Nat) (g : Nat → ClassId) (L : Nat) (fp many tlen tat qlen md gat kind gs th st rq bl te og : Int32) (wd tg : Value) (sc kd sr sa qb du : Nat → Int32) (wo : Nat → Option Nat) (v : Int64) (n : Int32) (sz : Nat) (hL : L ≤ 400) : Met l y_S_put (.code y_S_put b_S_put 5 (some .boolean) :: TT) ({ frames := 0, cells := 0, slots := 0, locals := 0 }) (va_Pc [.ref (h 0), .long v, .int n] (PX dC dI k (TE g) (WE h g (nI L) fp many tlen tat qlen md gat kind wd tg gs th st rq bl te og sc kd sr wo sa qb du) sz)) (va_Qi (fun (r : Int32) (u : Nat × (Nat → Int32)) => (r = 1 ∧ okP L n u.1) ∨ (r = 0 ∧ u.1 = L ∧ ∀ L1, ¬ okP L n L1)) (fun u t => BX dC dI (TE g) (va_A (WE h g (nI L) fp many tlen tat qlen md gat kind wd tg gs th st rq bl te og sc kd sr wo sa qb du) sz) (WE h g (nI u.1) fp many tlen tat qlen md gat kind wd tg gs th st rq bl te og u.2 kd sr wo sa qb du) t) (va_A (WE h g (nI L) fp many tlen tat qlen md gat kind wd tg gs th st rq bl te og sc kd sr wo sa qb du) sz)) 0 0 (va_A (WE h g (nI L) fp many tlen tat qlen md gat kind wd tg gs th st rq bl te og sc kd sr wo sa qb du) sz) := by
  refine Met.ofW (cc := b_S_put) (maxL := 5) (ret := (some .boolean)) (by decide) rfl ?_
  intro p e s m args below meth c s₁ B hml hv
  obtain ⟨rfl, hsz, hE, hP, hK, hD0⟩ := hv
  have hx := B.exec
  have hb := B.bytes
  have hr := B.returns
  have ht : ∀ w ∈ TT, w.before _ s = true := fun w hw => atoms_spec (ws := .code y_S_put b_S_put 5 (some .boolean) :: TT) B.pre w (List.mem_cons_of_mem _ hw)
  have hown : s.vm.findClass "SieveDesk" = some m.cls := findClass_of_methodNamed B.named
  have hlocks := B.notSynchronized
  subst hsz
  have hD := hD0.self (sz := s.heap.size)
  generalize hAe : va_A (WE h g (nI L) fp many tlen tat qlen md gat kind wd tg gs th st rq bl te og sc kd sr wo sa qb du) s.heap.size = A at hE hD ⊢
  have hA : ∀ q : Nat, s.heap.size ≤ q → A q := fun q h9 => by rw [← hAe]; exact Or.inr h9
  have hS : va_S A s.heap s.heap [] := va_S.rf
  have hl := lv_entry ([.ref (h 0), .long v, .int n]) (n := 5) (Nat.le_of_ble_eq_true rfl)
  rw [lg_entry_eq]
  generalize (lg_sl ([.ref (h 0), .long v, .int n]) ++ List.replicate (5 - (lg_sl ([.ref (h 0), .long v, .int n])).length) Slot.unset).toArray = ls at hl ⊢
  have hl : lv_has ls 5 [(0, .ref (h 0)), (1, .long v), (3, .int n)] := hl
  refine lv_iload_n hx hb d_S_put_0 rfl (lv_at hl 2 rfl) ?_
  refine lv_iconst (v := 1) hx hb d_S_put_1 (by decide) ?_
  refine lv_icmp_lt (tgt := 23) hx hb d_S_put_2 (by decide) (fun c_1 => ?_) (fun c_1 => ?_)
  · refine lv_iconst (v := 0) hx hb d_S_put_23 (by decide) ?_
    exact W.zret (v := 0) hx hb hr rfl (fun t het hW => ⟨⟨0, (L, sc), rfl, Or.inr ⟨rfl, rfl, okP_lo c_1⟩, by rw [het]; exact hP, va_K.moved hW.alike hK, hD⟩, hS.F het⟩) hS.2.2 d_S_put_24
  · refine lv_iload_n hx hb d_S_put_5 rfl (lv_at hl 2 rfl) ?_
    refine lv_bipush (v := 8) hx hb d_S_put_6 (by decide) ?_
    refine lv_icmp_gt (tgt := 23) hx hb d_S_put_8 (by decide) (fun c_2 => ?_) (fun c_2 => ?_)
    · refine lv_iconst (v := 0) hx hb d_S_put_23 (by decide) ?_
      exact W.zret (v := 0) hx hb hr rfl (fun t het hW => ⟨⟨0, (L, sc), rfl, Or.inr ⟨rfl, rfl, okP_hi c_2⟩, by rw [het]; exact hP, va_K.moved hW.alike hK, hD⟩, hS.F het⟩) hS.2.2 d_S_put_24
    · obtain ⟨j, hj, h1j, hj8⟩ := okP_of (L := L) c_1 c_2
      have hyes : n ≤ 400 - nI L → L + j ≤ 400 := fun hq => put_y1 hL hj hj8 hq
      have hno : ¬ n ≤ 400 - nI L → ∀ L1, ¬ okP L n L1 := fun hq => put_n1 hL hq
      refine lv_iload_n hx hb d_S_put_11 rfl (lv_at hl 2 rfl) ?_
      refine lv_sipush (v := 400) hx hb d_S_put_12 (by decide) ?_
      refine lv_aload_n hx hb d_S_put_15 rfl (lv_at hl 0 rfl) ?_
      refine va_get (D := (dC, dI)) (ci := 0) (v := .int (nI L)) (C := "SieveDesk") (T := F_S) (N := 5) hx hb ht i_S hown hK hP 0 rfl rfl 3 (by decide) (ht _ k_210) (fun _ h9 => h9) rfl d_S_put_16 ?_
      refine lv_isub hx hb d_S_put_19 ?_
      refine lv_icmp_le (tgt := 25) hx hb d_S_put_20 (by decide) (fun c_3 => ?_) (fun c_3 => ?_)
      · have hle : L + j ≤ 400 := hyes c_3
        have hok : okP L n (L + j) := ⟨j, hj, h1j, hj8, hle, rfl⟩
        refine lv_iload_n hx hb d_S_put_25 rfl (lv_at hl 2 rfl) ?_
        refine lv_iconst (v := 1) hx hb d_S_put_26 (by decide) ?_
        refine lv_isub hx hb d_S_put_27 ?_
        refine lv_istore (lv' := [(4, .int (n - 1)), (0, .ref (h 0)), (1, .long v), (3, .int n)]) hx hb d_S_put_28 hl (by decide) rfl (fun ls hl => ?_)
        refine lp_S_put hx hb hml hown ht hE hA hK hle (fun sc H locs ls hP hD hS hl => ?_) j _ L sc (by rw [hj]) hj8 rfl _ _ ls hP hD hS (lv_sub hl [0, 1, 2] rfl)
        refine lv_iconst (v := 1) hx hb d_S_put_69 (by decide) ?_
        exact W.zret (v := 1) hx hb hr rfl (fun t het hW => ⟨⟨1, (L + j, sc), rfl, Or.inl ⟨rfl, hok⟩, by rw [het]; exact hP, va_K.moved hW.alike hK, hD⟩, hS.F het⟩) hS.2.2 d_S_put_70
      · refine lv_iconst (v := 0) hx hb d_S_put_23 (by decide) ?_
        exact W.zret (v := 0) hx hb hr rfl (fun t het hW => ⟨⟨0, (L, sc), rfl, Or.inr ⟨rfl, rfl, hno c_3⟩, by rw [het]; exact hP, va_K.moved hW.alike hK, hD⟩, hS.F het⟩) hS.2.2 d_S_put_24
set_option maxHeartbeats 4000000 in
set_option maxRecDepth 100000 in
theorem lp_M_put {p : Program} {l : Launch} {e : Env} {R : Room} {s : State} {m : MethodId} {args : Array Value} {below : List Frame} {meth : Method} {c : Code} {cells slots : Nat} {Q : State → Prop} {A : Nat → Prop} {dC : Nat → ClassId} {dI : Nat → Nat → Nat} {k h : Nat → Nat} {g : Nat → ClassId} (hx : p.tables.exec = Jvm.exec) (hb : c.code = b_M_put) (hml : c.maxLocals = 5) (hown : s.vm.findClass "SieveDeskModel" = some m.cls) (ht : ∀ w ∈ TT, w.before args s = true) (hE : KE k A s s.heap) (hA : ∀ q : Nat, s.heap.size ≤ q → A q) (hK : va_K (dC, dI) cls (TM g) s) {sa so pl si fa li co st rq bl te op : Int32} {wo le : Nat → Int64} {wz tx ro : Nat → Int32} {v : Int64} {Le : Nat} (hLe : Le ≤ 400) (ex : ∀ (sr : Nat → Int32) (H : Heap) (locs : List Loc) (ls : Array Slot), va_P (dC, dI) cls (ME h g (nI Le) sa so pl si fa li co st rq bl te op wo wz sr le tx ro) H → va_D A (ME h g (nI Le) sa so pl si fa li co st rq bl te op wo wz sr le tx ro) → va_S A s.heap H locs → lv_has ls 5 [] → W p l e R s m args below meth c H locs cells slots Q (F0 m 72 ls [])) : ∀ (t : Nat) (x4 : Int32) (Lc : Nat) (sr : Nat → Int32), x4 = nI t - 1 → t ≤ 8 → Lc + t = Le → ∀ (H : Heap) (locs : List Loc) (ls : Array Slot), va_P (dC, dI) cls (ME h g (nI Lc) sa so pl si fa li co st rq bl te op wo wz sr le tx ro) H → va_D A (ME h g (nI Lc) sa so pl si fa li co st rq bl te op wo wz sr le tx ro) → va_S A s.heap H locs → lv_has ls 5 [(4, .int x4), (0, .ref (h 0)), (1, .long v)] → W p l e R s m args below meth c H locs cells slots Q (F0 m 30 ls []) := by
  intro t
  induction t with
  | zero =>
    intro x4 Lc sr e4 h8 hLc H locs ls hP hD hS hl
    obtain rfl : x4 = -1 := e4
    obtain rfl : Lc = Le := by omega
    refine lv_iload hx hb d_M_put_30 (lv_at hl 0 rfl) ?_
    refine lv_if_lt (tgt := 72) hx hb d_M_put_32 (by decide) (fun _ => ?_) (fun cn => absurd (by decide) cn)
    exact ex sr H locs ls hP hD hS (lv_sub hl [] rfl)
  | succ t ih =>
    intro x4 Lc sr e4 h8 hLc H locs ls hP hD hS hl
    obtain rfl : x4 = nI t := by rw [e4]; exact nI_pred t
    refine lv_iload hx hb d_M_put_30 (lv_at hl 0 rfl) ?_
    refine lv_if_lt (tgt := 72) hx hb d_M_put_32 (by decide) (fun cn => absurd cn (nI_pos (by omega))) (fun _ => ?_)
    refine lv_aload_n hx hb d_M_put_35 rfl (lv_at hl 1 rfl) ?_
    refine va_get (D := (dC, dI)) (ci := 4) (v := .ref (h 3)) (C := "SieveDeskModel") (T := F_M) (N := 19) hx hb ht i_M hown hK hP 0 rfl rfl 2 (by decide) (ht _ k_629) (fun _ h9 => h9) rfl d_M_put_36 ?_
    refine lv_aload_n hx hb d_M_put_39 rfl (lv_at hl 1 rfl) ?_
    refine va_get (D := (dC, dI)) (ci := 4) (v := .int (nI Lc)) (C := "SieveDeskModel") (T := F_M) (N := 19) hx hb ht i_M hown hK hP 0 rfl rfl 3 (by decide) (ht _ k_630) (fun _ h9 => h9) rfl d_M_put_40 ?_
    refine lv_lload_n hx hb d_M_put_43 rfl (lv_at hl 2 rfl) ?_
    refine lv_bipush (v := 8) hx hb d_M_put_44 (by decide) ?_
    refine lv_iload hx hb d_M_put_46 (lv_at hl 0 rfl) ?_
    refine lv_imul hx hb d_M_put_48 ?_
    refine lv_lshr (v := (v >>> ((Int32.toInt64 (8 * (nI t))) &&& 63))) hx hb d_M_put_49 rfl ?_
    refine lv_l2i (v := (Int64.toInt32 (v >>> ((Int32.toInt64 (8 * (nI t))) &&& 63)))) hx hb d_M_put_50 rfl ?_
    refine lv_sipush (v := 255) hx hb d_M_put_51 (by decide) ?_
    refine lv_iand hx hb d_M_put_54 ?_
    refine va_iast hx hb hK hP hD hS 3 2 rfl rfl (vp_in_nI (by omega) (by omega)) d_M_put_55 (fun H locs hP hD hS => ?_)
    have hP : va_P (dC, dI) cls (ME h g (nI Lc) sa so pl si fa li co st rq bl te op wo wz (upd sr (Int32.toNatClampNeg (nI Lc)) ((Int64.toInt32 (v >>> ((Int32.toInt64 (8 * (nI t))) &&& 63))) &&& 255)) le tx ro) H := hP
    have hD : va_D A (ME h g (nI Lc) sa so pl si fa li co st rq bl te op wo wz (upd sr (Int32.toNatClampNeg (nI Lc)) ((Int64.toInt32 (v >>> ((Int32.toInt64 (8 * (nI t))) &&& 63))) &&& 255)) le tx ro) := hD
    refine lv_aload_n hx hb d_M_put_56 rfl (lv_at hl 1 rfl) ?_
    refine lv_aload_n hx hb d_M_put_57 rfl (lv_at hl 1 rfl) ?_
    refine va_get (D := (dC, dI)) (ci := 4) (v := .int (nI Lc)) (C := "SieveDeskModel") (T := F_M) (N := 19) hx hb ht i_M hown hK hP 0 rfl rfl 3 (by decide) (ht _ k_630) (fun _ h9 => h9) rfl d_M_put_58 ?_
    refine lv_iconst (v := 1) hx hb d_M_put_61 (by decide) ?_
    refine lv_iadd hx hb d_M_put_62 ?_
    refine lv_ev (nI_1 (Lc)) ?_
    refine va_put (D := (dC, dI)) (ci := 4) (v := .int (nI (Lc + 1))) (ty := .int) (C := "SieveDeskModel") (T := F_M) (N := 19) hx hb ht i_M ty_M ty_M_ok n_M hown hK hP hD hS 0 rfl rfl 3 (by decide) (ht _ k_630) (fun _ h9 => h9) rfl (ty_M_ok 3 (by decide)) rfl rfl (Nat.le_of_ble_eq_true rfl) d_M_put_63 (fun H locs hP hD hS => ?_)
    have hP : va_P (dC, dI) cls (ME h g (nI (Lc + 1)) sa so pl si fa li co st rq bl te op wo wz (upd sr (Int32.toNatClampNeg (nI Lc)) ((Int64.toInt32 (v >>> ((Int32.toInt64 (8 * (nI t))) &&& 63))) &&& 255)) le tx ro) H := hP
    have hD : va_D A (ME h g (nI (Lc + 1)) sa so pl si fa li co st rq bl te op wo wz (upd sr (Int32.toNatClampNeg (nI Lc)) ((Int64.toInt32 (v >>> ((Int32.toInt64 (8 * (nI t))) &&& 63))) &&& 255)) le tx ro) := hD
    refine lv_iinc (v := ((nI t) + (-1))) (lv' := [(4, .int ((nI t) + (-1))), (0, .ref (h 0)), (1, .long v)]) hx hb d_M_put_66 hl (k := 0) rfl rfl (by decide) rfl (fun ls hl => ?_)
    refine lv_goto (tgt := 30) hx hb d_M_put_69 (by decide) ?_
    exact ih _ (Lc + 1) _ (by rw [Int32.sub_eq_add_neg]) (by omega) (by omega) H locs ls hP hD hS (lv_sub hl [0, 1, 2] rfl)
set_option maxHeartbeats 4000000 in
set_option maxRecDepth 100000 in
theorem c_M_put (l : Launch) (dC : Nat → ClassId) (dI : Nat → Nat → Nat) (k : Nat → Nat) (h : Nat → Nat) (g : Nat → ClassId) (L : Nat) (sa so pl si fa li co st rq bl te op : Int32) (wo le : Nat → Int64) (wz sr tx ro : Nat → Int32) (v : Int64) (n : Int32) (sz : Nat) (hL : L ≤ 400) : Met l y_M_put (.code y_M_put b_M_put 5 (some .boolean) :: TT) ({ frames := 0, cells := 0, slots := 0, locals := 0 }) (va_Pc [.ref (h 0), .long v, .int n] (PX dC dI k (TM g) (ME h g (nI L) sa so pl si fa li co st rq bl te op wo wz sr le tx ro) sz)) (va_Qi (fun (r : Int32) (u : Nat × (Nat → Int32)) => (r = 1 ∧ okP L n u.1) ∨ (r = 0 ∧ u.1 = L ∧ ∀ L1, ¬ okP L n L1)) (fun u t => BX dC dI (TM g) (va_A (ME h g (nI L) sa so pl si fa li co st rq bl te op wo wz sr le tx ro) sz) (ME h g (nI u.1) sa so pl si fa li co st rq bl te op wo wz u.2 le tx ro) t) (va_A (ME h g (nI L) sa so pl si fa li co st rq bl te op wo wz sr le tx ro) sz)) 0 0 (va_A (ME h g (nI L) sa so pl si fa li co st rq bl te op wo wz sr le tx ro) sz) := by
  refine Met.ofW (cc := b_M_put) (maxL := 5) (ret := (some .boolean)) (by decide) rfl ?_
  intro p e s m args below meth c s₁ B hml hv
  obtain ⟨rfl, hsz, hE, hP, hK, hD0⟩ := hv
  have hx := B.exec
  have hb := B.bytes
  have hr := B.returns
  have ht : ∀ w ∈ TT, w.before _ s = true := fun w hw => atoms_spec (ws := .code y_M_put b_M_put 5 (some .boolean) :: TT) B.pre w (List.mem_cons_of_mem _ hw)
  have hown : s.vm.findClass "SieveDeskModel" = some m.cls := findClass_of_methodNamed B.named
  have hlocks := B.notSynchronized
  subst hsz
  have hD := hD0.self (sz := s.heap.size)
  generalize hAe : va_A (ME h g (nI L) sa so pl si fa li co st rq bl te op wo wz sr le tx ro) s.heap.size = A at hE hD ⊢
  have hA : ∀ q : Nat, s.heap.size ≤ q → A q := fun q h9 => by rw [← hAe]; exact Or.inr h9
  have hS : va_S A s.heap s.heap [] := va_S.rf
  have hl := lv_entry ([.ref (h 0), .long v, .int n]) (n := 5) (Nat.le_of_ble_eq_true rfl)
  rw [lg_entry_eq]
  generalize (lg_sl ([.ref (h 0), .long v, .int n]) ++ List.replicate (5 - (lg_sl ([.ref (h 0), .long v, .int n])).length) Slot.unset).toArray = ls at hl ⊢
  have hl : lv_has ls 5 [(0, .ref (h 0)), (1, .long v), (3, .int n)] := hl
  refine lv_iload_n hx hb d_M_put_0 rfl (lv_at hl 2 rfl) ?_
  refine lv_iconst (v := 1) hx hb d_M_put_1 (by decide) ?_
  refine lv_icmp_lt (tgt := 23) hx hb d_M_put_2 (by decide) (fun c_1 => ?_) (fun c_1 => ?_)
  · refine lv_iconst (v := 0) hx hb d_M_put_23 (by decide) ?_
    exact W.zret (v := 0) hx hb hr rfl (fun t het hW => ⟨⟨0, (L, sr), rfl, Or.inr ⟨rfl, rfl, okP_lo c_1⟩, by rw [het]; exact hP, va_K.moved hW.alike hK, hD⟩, hS.F het⟩) hS.2.2 d_M_put_24
  · refine lv_iload_n hx hb d_M_put_5 rfl (lv_at hl 2 rfl) ?_
    refine lv_bipush (v := 8) hx hb d_M_put_6 (by decide) ?_
    refine lv_icmp_gt (tgt := 23) hx hb d_M_put_8 (by decide) (fun c_2 => ?_) (fun c_2 => ?_)
    · refine lv_iconst (v := 0) hx hb d_M_put_23 (by decide) ?_
      exact W.zret (v := 0) hx hb hr rfl (fun t het hW => ⟨⟨0, (L, sr), rfl, Or.inr ⟨rfl, rfl, okP_hi c_2⟩, by rw [het]; exact hP, va_K.moved hW.alike hK, hD⟩, hS.F het⟩) hS.2.2 d_M_put_24
    · obtain ⟨j, hj, h1j, hj8⟩ := okP_of (L := L) c_1 c_2
      have hyes : nI L + n ≤ 400 → L + j ≤ 400 := fun hq => put_y2 hL hj hj8 hq
      have hno : ¬ nI L + n ≤ 400 → ∀ L1, ¬ okP L n L1 := fun hq => put_n2 hL hq
      refine lv_aload_n hx hb d_M_put_11 rfl (lv_at hl 0 rfl) ?_
      refine va_get (D := (dC, dI)) (ci := 4) (v := .int (nI L)) (C := "SieveDeskModel") (T := F_M) (N := 19) hx hb ht i_M hown hK hP 0 rfl rfl 3 (by decide) (ht _ k_630) (fun _ h9 => h9) rfl d_M_put_12 ?_
      refine lv_iload_n hx hb d_M_put_15 rfl (lv_at hl 2 rfl) ?_
      refine lv_iadd hx hb d_M_put_16 ?_
      refine lv_sipush (v := 400) hx hb d_M_put_17 (by decide) ?_
      refine lv_icmp_le (tgt := 25) hx hb d_M_put_20 (by decide) (fun c_3 => ?_) (fun c_3 => ?_)
      · have hle : L + j ≤ 400 := hyes c_3
        have hok : okP L n (L + j) := ⟨j, hj, h1j, hj8, hle, rfl⟩
        refine lv_iload_n hx hb d_M_put_25 rfl (lv_at hl 2 rfl) ?_
        refine lv_iconst (v := 1) hx hb d_M_put_26 (by decide) ?_
        refine lv_isub hx hb d_M_put_27 ?_
        refine lv_istore (lv' := [(4, .int (n - 1)), (0, .ref (h 0)), (1, .long v), (3, .int n)]) hx hb d_M_put_28 hl (by decide) rfl (fun ls hl => ?_)
        refine lp_M_put hx hb hml hown ht hE hA hK hle (fun sr H locs ls hP hD hS hl => ?_) j _ L sr (by rw [hj]) hj8 rfl _ _ ls hP hD hS (lv_sub hl [0, 1, 2] rfl)
        refine lv_iconst (v := 1) hx hb d_M_put_72 (by decide) ?_
        exact W.zret (v := 1) hx hb hr rfl (fun t het hW => ⟨⟨1, (L + j, sr), rfl, Or.inl ⟨rfl, hok⟩, by rw [het]; exact hP, va_K.moved hW.alike hK, hD⟩, hS.F het⟩) hS.2.2 d_M_put_73
      · refine lv_iconst (v := 0) hx hb d_M_put_23 (by decide) ?_
        exact W.zret (v := 0) hx hb hr rfl (fun t het hW => ⟨⟨0, (L, sr), rfl, Or.inr ⟨rfl, rfl, hno c_3⟩, by rw [het]; exact hP, va_K.moved hW.alike hK, hD⟩, hS.F het⟩) hS.2.2 d_M_put_24
end
