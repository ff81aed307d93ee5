section
-- ===== PART A: goes FIRST, ahead of the names: the tables' words, and 'selects' of the private methods out of them =====
/-- a private method of a class that the tables say can be made, by its rows of tables_1 -/
def lw_okq (q : MethodName × Nat) : Prop := (q.1.cls ≠ "java/lang/invoke/MethodHandle" ∧ q.1.cls ≠ "java/lang/invoke/VarHandle") ∧ Cond.instantiable q.1.cls q.2 ∈ tables_1 ∧ Cond.privateMethod q.1 ∈ tables_1 ∧ Cond.instanceMethod q.1 ∈ tables_1
theorem lw_p0 : lw_okq (⟨"StatementRules2", "addBytes", "(I)V"⟩, 9) := ⟨⟨by decide +kernel, by decide +kernel⟩, List.mem_of_getElem? (i := 24) (by decide +kernel), List.mem_of_getElem? (i := 425) (by decide +kernel), List.mem_of_getElem? (i := 426) (by decide +kernel)⟩
theorem lw_p1 : lw_okq (⟨"StatementRules2", "isKindOrNothing", "(I)Z"⟩, 9) := ⟨⟨by decide +kernel, by decide +kernel⟩, List.mem_of_getElem? (i := 24) (by decide +kernel), List.mem_of_getElem? (i := 457) (by decide +kernel), List.mem_of_getElem? (i := 458) (by decide +kernel)⟩
theorem lw_p2 : lw_okq (⟨"StatementRules2$Tokens", "byteAt", "(I)I"⟩, 8) := ⟨⟨by decide +kernel, by decide +kernel⟩, List.mem_of_getElem? (i := 124) (by decide +kernel), List.mem_of_getElem? (i := 503) (by decide +kernel), List.mem_of_getElem? (i := 504) (by decide +kernel)⟩
theorem lw_p3 : lw_okq (⟨"StatementRules2$Tokens", "takeNumber", "()V"⟩, 8) := ⟨⟨by decide +kernel, by decide +kernel⟩, List.mem_of_getElem? (i := 124) (by decide +kernel), List.mem_of_getElem? (i := 510) (by decide +kernel), List.mem_of_getElem? (i := 511) (by decide +kernel)⟩
theorem lw_p4 : lw_okq (⟨"StatementRules2$Tokens", "takeRow", "()V"⟩, 8) := ⟨⟨by decide +kernel, by decide +kernel⟩, List.mem_of_getElem? (i := 124) (by decide +kernel), List.mem_of_getElem? (i := 517) (by decide +kernel), List.mem_of_getElem? (i := 518) (by decide +kernel)⟩
theorem lw_p5 : lw_okq (⟨"StatementRules2$Tokens", "rowType", "(I)I"⟩, 8) := ⟨⟨by decide +kernel, by decide +kernel⟩, List.mem_of_getElem? (i := 124) (by decide +kernel), List.mem_of_getElem? (i := 521) (by decide +kernel), List.mem_of_getElem? (i := 522) (by decide +kernel)⟩
theorem lw_p6 : lw_okq (⟨"StatementRules2$Tokens", "takeSign", "()V"⟩, 8) := ⟨⟨by decide +kernel, by decide +kernel⟩, List.mem_of_getElem? (i := 124) (by decide +kernel), List.mem_of_getElem? (i := 532) (by decide +kernel), List.mem_of_getElem? (i := 533) (by decide +kernel)⟩
theorem lw_p7 : lw_okq (⟨"StatementRules2$Statements", "turns", "(I)V"⟩, 11) := ⟨⟨by decide +kernel, by decide +kernel⟩, List.mem_of_getElem? (i := 122) (by decide +kernel), List.mem_of_getElem? (i := 620) (by decide +kernel), List.mem_of_getElem? (i := 621) (by decide +kernel)⟩
theorem lw_p8 : lw_okq (⟨"StatementRules2$Statements", "bodyTurn", "(LStatementRules2$Open;)V"⟩, 11) := ⟨⟨by decide +kernel, by decide +kernel⟩, List.mem_of_getElem? (i := 122) (by decide +kernel), List.mem_of_getElem? (i := 636) (by decide +kernel), List.mem_of_getElem? (i := 637) (by decide +kernel)⟩
theorem lw_p9 : lw_okq (⟨"StatementRules2$Statements", "endBody", "(LStatementRules2$Open;)V"⟩, 11) := ⟨⟨by decide +kernel, by decide +kernel⟩, List.mem_of_getElem? (i := 122) (by decide +kernel), List.mem_of_getElem? (i := 640) (by decide +kernel), List.mem_of_getElem? (i := 641) (by decide +kernel)⟩
theorem lw_p10 : lw_okq (⟨"StatementRules2$Statements", "endIf", "(LStatementRules2$Open;)V"⟩, 11) := ⟨⟨by decide +kernel, by decide +kernel⟩, List.mem_of_getElem? (i := 122) (by decide +kernel), List.mem_of_getElem? (i := 644) (by decide +kernel), List.mem_of_getElem? (i := 645) (by decide +kernel)⟩
theorem lw_p11 : lw_okq (⟨"StatementRules2$Statements", "endDo", "(LStatementRules2$Open;)V"⟩, 11) := ⟨⟨by decide +kernel, by decide +kernel⟩, List.mem_of_getElem? (i := 122) (by decide +kernel), List.mem_of_getElem? (i := 690) (by decide +kernel), List.mem_of_getElem? (i := 691) (by decide +kernel)⟩
theorem lw_p12 : lw_okq (⟨"StatementRules2$Statements", "conditionInside", "()Z"⟩, 11) := ⟨⟨by decide +kernel, by decide +kernel⟩, List.mem_of_getElem? (i := 122) (by decide +kernel), List.mem_of_getElem? (i := 714) (by decide +kernel), List.mem_of_getElem? (i := 715) (by decide +kernel)⟩
theorem lw_p13 : lw_okq (⟨"StatementRules2$Statements", "statement", "(Z)V"⟩, 11) := ⟨⟨by decide +kernel, by decide +kernel⟩, List.mem_of_getElem? (i := 122) (by decide +kernel), List.mem_of_getElem? (i := 824) (by decide +kernel), List.mem_of_getElem? (i := 825) (by decide +kernel)⟩
theorem lw_p14 : lw_okq (⟨"StatementRules2$Statements", "notReached", "(I)V"⟩, 11) := ⟨⟨by decide +kernel, by decide +kernel⟩, List.mem_of_getElem? (i := 122) (by decide +kernel), List.mem_of_getElem? (i := 828) (by decide +kernel), List.mem_of_getElem? (i := 829) (by decide +kernel)⟩
theorem lw_p15 : lw_okq (⟨"StatementRules2$Statements", "named", "()V"⟩, 11) := ⟨⟨by decide +kernel, by decide +kernel⟩, List.mem_of_getElem? (i := 122) (by decide +kernel), List.mem_of_getElem? (i := 836) (by decide +kernel), List.mem_of_getElem? (i := 837) (by decide +kernel)⟩
def lw_privs_1 : List (MethodName × Nat) := [(⟨"StatementRules2", "addBytes", "(I)V"⟩, 9), (⟨"StatementRules2", "isKindOrNothing", "(I)Z"⟩, 9), (⟨"StatementRules2$Tokens", "byteAt", "(I)I"⟩, 8), (⟨"StatementRules2$Tokens", "takeNumber", "()V"⟩, 8), (⟨"StatementRules2$Tokens", "takeRow", "()V"⟩, 8), (⟨"StatementRules2$Tokens", "rowType", "(I)I"⟩, 8), (⟨"StatementRules2$Tokens", "takeSign", "()V"⟩, 8), (⟨"StatementRules2$Statements", "turns", "(I)V"⟩, 11), (⟨"StatementRules2$Statements", "bodyTurn", "(LStatementRules2$Open;)V"⟩, 11), (⟨"StatementRules2$Statements", "endBody", "(LStatementRules2$Open;)V"⟩, 11), (⟨"StatementRules2$Statements", "endIf", "(LStatementRules2$Open;)V"⟩, 11), (⟨"StatementRules2$Statements", "endDo", "(LStatementRules2$Open;)V"⟩, 11), (⟨"StatementRules2$Statements", "conditionInside", "()Z"⟩, 11), (⟨"StatementRules2$Statements", "statement", "(Z)V"⟩, 11), (⟨"StatementRules2$Statements", "notReached", "(I)V"⟩, 11), (⟨"StatementRules2$Statements", "named", "()V"⟩, 11)]
theorem lw_r1 : ∀ q ∈ lw_privs_1, lw_okq q := List.forall_mem_cons.mpr ⟨lw_p0, List.forall_mem_cons.mpr ⟨lw_p1, List.forall_mem_cons.mpr ⟨lw_p2, List.forall_mem_cons.mpr ⟨lw_p3, List.forall_mem_cons.mpr ⟨lw_p4, List.forall_mem_cons.mpr ⟨lw_p5, List.forall_mem_cons.mpr ⟨lw_p6, List.forall_mem_cons.mpr ⟨lw_p7, List.forall_mem_cons.mpr ⟨lw_p8, List.forall_mem_cons.mpr ⟨lw_p9, List.forall_mem_cons.mpr ⟨lw_p10, List.forall_mem_cons.mpr ⟨lw_p11, List.forall_mem_cons.mpr ⟨lw_p12, List.forall_mem_cons.mpr ⟨lw_p13, List.forall_mem_cons.mpr ⟨lw_p14, List.forall_mem_cons.mpr ⟨lw_p15, fun _ h => absurd h List.not_mem_nil⟩⟩⟩⟩⟩⟩⟩⟩⟩⟩⟩⟩⟩⟩⟩⟩
theorem lw_p16 : lw_okq (⟨"StatementRules2$Statements", "change", "(JIZ)V"⟩, 11) := ⟨⟨by decide +kernel, by decide +kernel⟩, List.mem_of_getElem? (i := 122) (by decide +kernel), List.mem_of_getElem? (i := 841) (by decide +kernel), List.mem_of_getElem? (i := 842) (by decide +kernel)⟩
theorem lw_p17 : lw_okq (⟨"StatementRules2$Statements", "plain", "()V"⟩, 11) := ⟨⟨by decide +kernel, by decide +kernel⟩, List.mem_of_getElem? (i := 122) (by decide +kernel), List.mem_of_getElem? (i := 868) (by decide +kernel), List.mem_of_getElem? (i := 869) (by decide +kernel)⟩
theorem lw_p18 : lw_okq (⟨"StatementRules2$Statements", "newName", "()J"⟩, 11) := ⟨⟨by decide +kernel, by decide +kernel⟩, List.mem_of_getElem? (i := 122) (by decide +kernel), List.mem_of_getElem? (i := 872) (by decide +kernel), List.mem_of_getElem? (i := 873) (by decide +kernel)⟩
theorem lw_p19 : lw_okq (⟨"StatementRules2$Statements", "define", "(J)V"⟩, 11) := ⟨⟨by decide +kernel, by decide +kernel⟩, List.mem_of_getElem? (i := 122) (by decide +kernel), List.mem_of_getElem? (i := 876) (by decide +kernel), List.mem_of_getElem? (i := 877) (by decide +kernel)⟩
theorem lw_p20 : lw_okq (⟨"StatementRules2$Statements", "tell", "(J)I"⟩, 11) := ⟨⟨by decide +kernel, by decide +kernel⟩, List.mem_of_getElem? (i := 122) (by decide +kernel), List.mem_of_getElem? (i := 880) (by decide +kernel), List.mem_of_getElem? (i := 881) (by decide +kernel)⟩
theorem lw_p21 : lw_okq (⟨"StatementRules2$Statements", "jump", "()V"⟩, 11) := ⟨⟨by decide +kernel, by decide +kernel⟩, List.mem_of_getElem? (i := 122) (by decide +kernel), List.mem_of_getElem? (i := 884) (by decide +kernel), List.mem_of_getElem? (i := 885) (by decide +kernel)⟩
theorem lw_p22 : lw_okq (⟨"StatementRules2$Statements", "labelTarget", "(Z)I"⟩, 11) := ⟨⟨by decide +kernel, by decide +kernel⟩, List.mem_of_getElem? (i := 122) (by decide +kernel), List.mem_of_getElem? (i := 888) (by decide +kernel), List.mem_of_getElem? (i := 889) (by decide +kernel)⟩
theorem lw_p23 : lw_okq (⟨"StatementRules2$Statements", "leave", "(II)V"⟩, 11) := ⟨⟨by decide +kernel, by decide +kernel⟩, List.mem_of_getElem? (i := 122) (by decide +kernel), List.mem_of_getElem? (i := 906) (by decide +kernel), List.mem_of_getElem? (i := 907) (by decide +kernel)⟩
theorem lw_p24 : lw_okq (⟨"StatementRules2$Statements", "giveBack", "()V"⟩, 11) := ⟨⟨by decide +kernel, by decide +kernel⟩, List.mem_of_getElem? (i := 122) (by decide +kernel), List.mem_of_getElem? (i := 910) (by decide +kernel), List.mem_of_getElem? (i := 911) (by decide +kernel)⟩
theorem lw_p25 : lw_okq (⟨"StatementRules2$Statements", "yieldValue", "()V"⟩, 11) := ⟨⟨by decide +kernel, by decide +kernel⟩, List.mem_of_getElem? (i := 122) (by decide +kernel), List.mem_of_getElem? (i := 914) (by decide +kernel), List.mem_of_getElem? (i := 915) (by decide +kernel)⟩
theorem lw_p26 : lw_okq (⟨"StatementRules2$Statements", "throwOne", "()V"⟩, 11) := ⟨⟨by decide +kernel, by decide +kernel⟩, List.mem_of_getElem? (i := 122) (by decide +kernel), List.mem_of_getElem? (i := 918) (by decide +kernel), List.mem_of_getElem? (i := 919) (by decide +kernel)⟩
theorem lw_p27 : lw_okq (⟨"StatementRules2$Statements", "claim", "()V"⟩, 11) := ⟨⟨by decide +kernel, by decide +kernel⟩, List.mem_of_getElem? (i := 122) (by decide +kernel), List.mem_of_getElem? (i := 927) (by decide +kernel), List.mem_of_getElem? (i := 928) (by decide +kernel)⟩
theorem lw_p28 : lw_okq (⟨"StatementRules2$Statements", "compound", "()V"⟩, 11) := ⟨⟨by decide +kernel, by decide +kernel⟩, List.mem_of_getElem? (i := 122) (by decide +kernel), List.mem_of_getElem? (i := 931) (by decide +kernel), List.mem_of_getElem? (i := 932) (by decide +kernel)⟩
theorem lw_p29 : lw_okq (⟨"StatementRules2$Statements", "beginIf", "()V"⟩, 11) := ⟨⟨by decide +kernel, by decide +kernel⟩, List.mem_of_getElem? (i := 122) (by decide +kernel), List.mem_of_getElem? (i := 935) (by decide +kernel), List.mem_of_getElem? (i := 936) (by decide +kernel)⟩
theorem lw_p30 : lw_okq (⟨"StatementRules2$Statements", "beginWhile", "()V"⟩, 11) := ⟨⟨by decide +kernel, by decide +kernel⟩, List.mem_of_getElem? (i := 122) (by decide +kernel), List.mem_of_getElem? (i := 939) (by decide +kernel), List.mem_of_getElem? (i := 940) (by decide +kernel)⟩
theorem lw_p31 : lw_okq (⟨"StatementRules2$Statements", "pushLoop", "(III)LStatementRules2$Open;"⟩, 11) := ⟨⟨by decide +kernel, by decide +kernel⟩, List.mem_of_getElem? (i := 122) (by decide +kernel), List.mem_of_getElem? (i := 943) (by decide +kernel), List.mem_of_getElem? (i := 944) (by decide +kernel)⟩
def lw_privs_2 : List (MethodName × Nat) := [(⟨"StatementRules2$Statements", "change", "(JIZ)V"⟩, 11), (⟨"StatementRules2$Statements", "plain", "()V"⟩, 11), (⟨"StatementRules2$Statements", "newName", "()J"⟩, 11), (⟨"StatementRules2$Statements", "define", "(J)V"⟩, 11), (⟨"StatementRules2$Statements", "tell", "(J)I"⟩, 11), (⟨"StatementRules2$Statements", "jump", "()V"⟩, 11), (⟨"StatementRules2$Statements", "labelTarget", "(Z)I"⟩, 11), (⟨"StatementRules2$Statements", "leave", "(II)V"⟩, 11), (⟨"StatementRules2$Statements", "giveBack", "()V"⟩, 11), (⟨"StatementRules2$Statements", "yieldValue", "()V"⟩, 11), (⟨"StatementRules2$Statements", "throwOne", "()V"⟩, 11), (⟨"StatementRules2$Statements", "claim", "()V"⟩, 11), (⟨"StatementRules2$Statements", "compound", "()V"⟩, 11), (⟨"StatementRules2$Statements", "beginIf", "()V"⟩, 11), (⟨"StatementRules2$Statements", "beginWhile", "()V"⟩, 11), (⟨"StatementRules2$Statements", "pushLoop", "(III)LStatementRules2$Open;"⟩, 11)]
theorem lw_r2 : ∀ q ∈ lw_privs_2, lw_okq q := List.forall_mem_cons.mpr ⟨lw_p16, List.forall_mem_cons.mpr ⟨lw_p17, List.forall_mem_cons.mpr ⟨lw_p18, List.forall_mem_cons.mpr ⟨lw_p19, List.forall_mem_cons.mpr ⟨lw_p20, List.forall_mem_cons.mpr ⟨lw_p21, List.forall_mem_cons.mpr ⟨lw_p22, List.forall_mem_cons.mpr ⟨lw_p23, List.forall_mem_cons.mpr ⟨lw_p24, List.forall_mem_cons.mpr ⟨lw_p25, List.forall_mem_cons.mpr ⟨lw_p26, List.forall_mem_cons.mpr ⟨lw_p27, List.forall_mem_cons.mpr ⟨lw_p28, List.forall_mem_cons.mpr ⟨lw_p29, List.forall_mem_cons.mpr ⟨lw_p30, List.forall_mem_cons.mpr ⟨lw_p31, fun _ h => absurd h List.not_mem_nil⟩⟩⟩⟩⟩⟩⟩⟩⟩⟩⟩⟩⟩⟩⟩⟩
theorem lw_p32 : lw_okq (⟨"StatementRules2$Statements", "beginDo", "()V"⟩, 11) := ⟨⟨by decide +kernel, by decide +kernel⟩, List.mem_of_getElem? (i := 122) (by decide +kernel), List.mem_of_getElem? (i := 947) (by decide +kernel), List.mem_of_getElem? (i := 948) (by decide +kernel)⟩
theorem lw_p33 : lw_okq (⟨"StatementRules2$Statements", "beginFor", "()V"⟩, 11) := ⟨⟨by decide +kernel, by decide +kernel⟩, List.mem_of_getElem? (i := 122) (by decide +kernel), List.mem_of_getElem? (i := 951) (by decide +kernel), List.mem_of_getElem? (i := 952) (by decide +kernel)⟩
theorem lw_p34 : lw_okq (⟨"StatementRules2$Statements", "rowHead", "(J)LStatementRules2$Open;"⟩, 11) := ⟨⟨by decide +kernel, by decide +kernel⟩, List.mem_of_getElem? (i := 122) (by decide +kernel), List.mem_of_getElem? (i := 955) (by decide +kernel), List.mem_of_getElem? (i := 956) (by decide +kernel)⟩
theorem lw_p35 : lw_okq (⟨"StatementRules2$Statements", "rowValues", "()I"⟩, 11) := ⟨⟨by decide +kernel, by decide +kernel⟩, List.mem_of_getElem? (i := 122) (by decide +kernel), List.mem_of_getElem? (i := 959) (by decide +kernel), List.mem_of_getElem? (i := 960) (by decide +kernel)⟩
theorem lw_p36 : lw_okq (⟨"StatementRules2$Statements", "throwNull", "()V"⟩, 11) := ⟨⟨by decide +kernel, by decide +kernel⟩, List.mem_of_getElem? (i := 122) (by decide +kernel), List.mem_of_getElem? (i := 963) (by decide +kernel), List.mem_of_getElem? (i := 964) (by decide +kernel)⟩
theorem lw_p37 : lw_okq (⟨"StatementRules2$Statements", "forHead", "()LStatementRules2$Open;"⟩, 11) := ⟨⟨by decide +kernel, by decide +kernel⟩, List.mem_of_getElem? (i := 122) (by decide +kernel), List.mem_of_getElem? (i := 967) (by decide +kernel), List.mem_of_getElem? (i := 968) (by decide +kernel)⟩
theorem lw_p38 : lw_okq (⟨"StatementRules2$Statements", "changeHere", "(Z)V"⟩, 11) := ⟨⟨by decide +kernel, by decide +kernel⟩, List.mem_of_getElem? (i := 122) (by decide +kernel), List.mem_of_getElem? (i := 971) (by decide +kernel), List.mem_of_getElem? (i := 972) (by decide +kernel)⟩
theorem lw_p39 : lw_okq (⟨"StatementRules2$Statements", "beginLock", "()V"⟩, 11) := ⟨⟨by decide +kernel, by decide +kernel⟩, List.mem_of_getElem? (i := 122) (by decide +kernel), List.mem_of_getElem? (i := 975) (by decide +kernel), List.mem_of_getElem? (i := 976) (by decide +kernel)⟩
theorem lw_p40 : lw_okq (⟨"StatementRules2$Statements", "beginSwitch", "()V"⟩, 11) := ⟨⟨by decide +kernel, by decide +kernel⟩, List.mem_of_getElem? (i := 122) (by decide +kernel), List.mem_of_getElem? (i := 979) (by decide +kernel), List.mem_of_getElem? (i := 980) (by decide +kernel)⟩
theorem lw_p41 : lw_okq (⟨"StatementRules2$Statements", "beginTry", "()V"⟩, 11) := ⟨⟨by decide +kernel, by decide +kernel⟩, List.mem_of_getElem? (i := 122) (by decide +kernel), List.mem_of_getElem? (i := 983) (by decide +kernel), List.mem_of_getElem? (i := 984) (by decide +kernel)⟩
theorem lw_p42 : lw_okq (⟨"StatementRules2$Statements", "openResource", "()V"⟩, 11) := ⟨⟨by decide +kernel, by decide +kernel⟩, List.mem_of_getElem? (i := 122) (by decide +kernel), List.mem_of_getElem? (i := 987) (by decide +kernel), List.mem_of_getElem? (i := 988) (by decide +kernel)⟩
theorem lw_p43 : lw_okq (⟨"StatementRules2$Statements", "beginCatch", "(LStatementRules2$Open;)V"⟩, 11) := ⟨⟨by decide +kernel, by decide +kernel⟩, List.mem_of_getElem? (i := 122) (by decide +kernel), List.mem_of_getElem? (i := 991) (by decide +kernel), List.mem_of_getElem? (i := 992) (by decide +kernel)⟩
theorem lw_p44 : lw_okq (⟨"StatementRules2$Statements", "caughtKind", "(LStatementRules2$Open;I)V"⟩, 11) := ⟨⟨by decide +kernel, by decide +kernel⟩, List.mem_of_getElem? (i := 122) (by decide +kernel), List.mem_of_getElem? (i := 995) (by decide +kernel), List.mem_of_getElem? (i := 996) (by decide +kernel)⟩
theorem lw_p45 : lw_okq (⟨"StatementRules2$Statements", "beginFinally", "(LStatementRules2$Open;)V"⟩, 11) := ⟨⟨by decide +kernel, by decide +kernel⟩, List.mem_of_getElem? (i := 122) (by decide +kernel), List.mem_of_getElem? (i := 1004) (by decide +kernel), List.mem_of_getElem? (i := 1005) (by decide +kernel)⟩
theorem lw_p46 : lw_okq (⟨"StatementRules2$Statements", "endList", "(LStatementRules2$Open;)V"⟩, 11) := ⟨⟨by decide +kernel, by decide +kernel⟩, List.mem_of_getElem? (i := 122) (by decide +kernel), List.mem_of_getElem? (i := 1008) (by decide +kernel), List.mem_of_getElem? (i := 1009) (by decide +kernel)⟩
theorem lw_p47 : lw_okq (⟨"StatementRules2$Statements", "endLock", "(LStatementRules2$Open;)V"⟩, 11) := ⟨⟨by decide +kernel, by decide +kernel⟩, List.mem_of_getElem? (i := 122) (by decide +kernel), List.mem_of_getElem? (i := 1012) (by decide +kernel), List.mem_of_getElem? (i := 1013) (by decide +kernel)⟩
def lw_privs_3 : List (MethodName × Nat) := [(⟨"StatementRules2$Statements", "beginDo", "()V"⟩, 11), (⟨"StatementRules2$Statements", "beginFor", "()V"⟩, 11), (⟨"StatementRules2$Statements", "rowHead", "(J)LStatementRules2$Open;"⟩, 11), (⟨"StatementRules2$Statements", "rowValues", "()I"⟩, 11), (⟨"StatementRules2$Statements", "throwNull", "()V"⟩, 11), (⟨"StatementRules2$Statements", "forHead", "()LStatementRules2$Open;"⟩, 11), (⟨"StatementRules2$Statements", "changeHere", "(Z)V"⟩, 11), (⟨"StatementRules2$Statements", "beginLock", "()V"⟩, 11), (⟨"StatementRules2$Statements", "beginSwitch", "()V"⟩, 11), (⟨"StatementRules2$Statements", "beginTry", "()V"⟩, 11), (⟨"StatementRules2$Statements", "openResource", "()V"⟩, 11), (⟨"StatementRules2$Statements", "beginCatch", "(LStatementRules2$Open;)V"⟩, 11), (⟨"StatementRules2$Statements", "caughtKind", "(LStatementRules2$Open;I)V"⟩, 11), (⟨"StatementRules2$Statements", "beginFinally", "(LStatementRules2$Open;)V"⟩, 11), (⟨"StatementRules2$Statements", "endList", "(LStatementRules2$Open;)V"⟩, 11), (⟨"StatementRules2$Statements", "endLock", "(LStatementRules2$Open;)V"⟩, 11)]
theorem lw_r3 : ∀ q ∈ lw_privs_3, lw_okq q := List.forall_mem_cons.mpr ⟨lw_p32, List.forall_mem_cons.mpr ⟨lw_p33, List.forall_mem_cons.mpr ⟨lw_p34, List.forall_mem_cons.mpr ⟨lw_p35, List.forall_mem_cons.mpr ⟨lw_p36, List.forall_mem_cons.mpr ⟨lw_p37, List.forall_mem_cons.mpr ⟨lw_p38, List.forall_mem_cons.mpr ⟨lw_p39, List.forall_mem_cons.mpr ⟨lw_p40, List.forall_mem_cons.mpr ⟨lw_p41, List.forall_mem_cons.mpr ⟨lw_p42, List.forall_mem_cons.mpr ⟨lw_p43, List.forall_mem_cons.mpr ⟨lw_p44, List.forall_mem_cons.mpr ⟨lw_p45, List.forall_mem_cons.mpr ⟨lw_p46, List.forall_mem_cons.mpr ⟨lw_p47, fun _ h => absurd h List.not_mem_nil⟩⟩⟩⟩⟩⟩⟩⟩⟩⟩⟩⟩⟩⟩⟩⟩
theorem lw_p48 : lw_okq (⟨"StatementRules2$Statements", "endSwitch", "(LStatementRules2$Open;)V"⟩, 11) := ⟨⟨by decide +kernel, by decide +kernel⟩, List.mem_of_getElem? (i := 122) (by decide +kernel), List.mem_of_getElem? (i := 1016) (by decide +kernel), List.mem_of_getElem? (i := 1017) (by decide +kernel)⟩
theorem lw_p49 : lw_okq (⟨"StatementRules2$Statements", "endGuarded", "(LStatementRules2$Open;)V"⟩, 11) := ⟨⟨by decide +kernel, by decide +kernel⟩, List.mem_of_getElem? (i := 122) (by decide +kernel), List.mem_of_getElem? (i := 1021) (by decide +kernel), List.mem_of_getElem? (i := 1022) (by decide +kernel)⟩
theorem lw_p50 : lw_okq (⟨"StatementRules2$Statements", "endFinally", "(LStatementRules2$Open;)V"⟩, 11) := ⟨⟨by decide +kernel, by decide +kernel⟩, List.mem_of_getElem? (i := 122) (by decide +kernel), List.mem_of_getElem? (i := 1025) (by decide +kernel), List.mem_of_getElem? (i := 1026) (by decide +kernel)⟩
theorem lw_p51 : lw_okq (⟨"StatementRules2$Statements", "groupTurn", "(LStatementRules2$Open;)V"⟩, 11) := ⟨⟨by decide +kernel, by decide +kernel⟩, List.mem_of_getElem? (i := 122) (by decide +kernel), List.mem_of_getElem? (i := 1033) (by decide +kernel), List.mem_of_getElem? (i := 1034) (by decide +kernel)⟩
theorem lw_p52 : lw_okq (⟨"StatementRules2$Machine", "instruction", "()V"⟩, 20) := ⟨⟨by decide +kernel, by decide +kernel⟩, List.mem_of_getElem? (i := 320) (by decide +kernel), List.mem_of_getElem? (i := 1059) (by decide +kernel), List.mem_of_getElem? (i := 1060) (by decide +kernel)⟩
theorem lw_p53 : lw_okq (⟨"StatementRules2$Machine", "move", "(II)V"⟩, 20) := ⟨⟨by decide +kernel, by decide +kernel⟩, List.mem_of_getElem? (i := 320) (by decide +kernel), List.mem_of_getElem? (i := 1064) (by decide +kernel), List.mem_of_getElem? (i := 1065) (by decide +kernel)⟩
theorem lw_p54 : lw_okq (⟨"StatementRules2$Machine", "push", "(I)V"⟩, 20) := ⟨⟨by decide +kernel, by decide +kernel⟩, List.mem_of_getElem? (i := 320) (by decide +kernel), List.mem_of_getElem? (i := 1068) (by decide +kernel), List.mem_of_getElem? (i := 1069) (by decide +kernel)⟩
theorem lw_p55 : lw_okq (⟨"StatementRules2$Machine", "pop", "()I"⟩, 20) := ⟨⟨by decide +kernel, by decide +kernel⟩, List.mem_of_getElem? (i := 320) (by decide +kernel), List.mem_of_getElem? (i := 1072) (by decide +kernel), List.mem_of_getElem? (i := 1073) (by decide +kernel)⟩
theorem lw_p56 : lw_okq (⟨"StatementRules2$Machine", "combine", "(I)V"⟩, 20) := ⟨⟨by decide +kernel, by decide +kernel⟩, List.mem_of_getElem? (i := 320) (by decide +kernel), List.mem_of_getElem? (i := 1076) (by decide +kernel), List.mem_of_getElem? (i := 1077) (by decide +kernel)⟩
theorem lw_p57 : lw_okq (⟨"StatementRules2$Machine", "divide", "(III)V"⟩, 20) := ⟨⟨by decide +kernel, by decide +kernel⟩, List.mem_of_getElem? (i := 320) (by decide +kernel), List.mem_of_getElem? (i := 1083) (by decide +kernel), List.mem_of_getElem? (i := 1084) (by decide +kernel)⟩
theorem lw_p58 : lw_okq (⟨"StatementRules2$Machine", "raise", "(II)V"⟩, 20) := ⟨⟨by decide +kernel, by decide +kernel⟩, List.mem_of_getElem? (i := 320) (by decide +kernel), List.mem_of_getElem? (i := 1087) (by decide +kernel), List.mem_of_getElem? (i := 1088) (by decide +kernel)⟩
theorem lw_p59 : lw_okq (⟨"StatementRules2$Machine", "freeThrown", "()LStatementRules2$Thrown;"⟩, 20) := ⟨⟨by decide +kernel, by decide +kernel⟩, List.mem_of_getElem? (i := 320) (by decide +kernel), List.mem_of_getElem? (i := 1091) (by decide +kernel), List.mem_of_getElem? (i := 1092) (by decide +kernel)⟩
theorem lw_p60 : lw_okq (⟨"StatementRules2$Machine", "isHeld", "(LStatementRules2$Thrown;)Z"⟩, 20) := ⟨⟨by decide +kernel, by decide +kernel⟩, List.mem_of_getElem? (i := 320) (by decide +kernel), List.mem_of_getElem? (i := 1120) (by decide +kernel), List.mem_of_getElem? (i := 1121) (by decide +kernel)⟩
theorem lw_p61 : lw_okq (⟨"StatementRules2$Machine", "go", "(III)V"⟩, 20) := ⟨⟨by decide +kernel, by decide +kernel⟩, List.mem_of_getElem? (i := 320) (by decide +kernel), List.mem_of_getElem? (i := 1124) (by decide +kernel), List.mem_of_getElem? (i := 1125) (by decide +kernel)⟩
theorem lw_p62 : lw_okq (⟨"StatementRules2$Machine", "steer", "(II)V"⟩, 20) := ⟨⟨by decide +kernel, by decide +kernel⟩, List.mem_of_getElem? (i := 320) (by decide +kernel), List.mem_of_getElem? (i := 1128) (by decide +kernel), List.mem_of_getElem? (i := 1129) (by decide +kernel)⟩
theorem lw_p63 : lw_okq (⟨"StatementRules2$Machine", "goIf", "(ZI)V"⟩, 20) := ⟨⟨by decide +kernel, by decide +kernel⟩, List.mem_of_getElem? (i := 320) (by decide +kernel), List.mem_of_getElem? (i := 1132) (by decide +kernel), List.mem_of_getElem? (i := 1133) (by decide +kernel)⟩
def lw_privs_4 : List (MethodName × Nat) := [(⟨"StatementRules2$Statements", "endSwitch", "(LStatementRules2$Open;)V"⟩, 11), (⟨"StatementRules2$Statements", "endGuarded", "(LStatementRules2$Open;)V"⟩, 11), (⟨"StatementRules2$Statements", "endFinally", "(LStatementRules2$Open;)V"⟩, 11), (⟨"StatementRules2$Statements", "groupTurn", "(LStatementRules2$Open;)V"⟩, 11), (⟨"StatementRules2$Machine", "instruction", "()V"⟩, 20), (⟨"StatementRules2$Machine", "move", "(II)V"⟩, 20), (⟨"StatementRules2$Machine", "push", "(I)V"⟩, 20), (⟨"StatementRules2$Machine", "pop", "()I"⟩, 20), (⟨"StatementRules2$Machine", "combine", "(I)V"⟩, 20), (⟨"StatementRules2$Machine", "divide", "(III)V"⟩, 20), (⟨"StatementRules2$Machine", "raise", "(II)V"⟩, 20), (⟨"StatementRules2$Machine", "freeThrown", "()LStatementRules2$Thrown;"⟩, 20), (⟨"StatementRules2$Machine", "isHeld", "(LStatementRules2$Thrown;)Z"⟩, 20), (⟨"StatementRules2$Machine", "go", "(III)V"⟩, 20), (⟨"StatementRules2$Machine", "steer", "(II)V"⟩, 20), (⟨"StatementRules2$Machine", "goIf", "(ZI)V"⟩, 20)]
theorem lw_r4 : ∀ q ∈ lw_privs_4, lw_okq q := List.forall_mem_cons.mpr ⟨lw_p48, List.forall_mem_cons.mpr ⟨lw_p49, List.forall_mem_cons.mpr ⟨lw_p50, List.forall_mem_cons.mpr ⟨lw_p51, List.forall_mem_cons.mpr ⟨lw_p52, List.forall_mem_cons.mpr ⟨lw_p53, List.forall_mem_cons.mpr ⟨lw_p54, List.forall_mem_cons.mpr ⟨lw_p55, List.forall_mem_cons.mpr ⟨lw_p56, List.forall_mem_cons.mpr ⟨lw_p57, List.forall_mem_cons.mpr ⟨lw_p58, List.forall_mem_cons.mpr ⟨lw_p59, List.forall_mem_cons.mpr ⟨lw_p60, List.forall_mem_cons.mpr ⟨lw_p61, List.forall_mem_cons.mpr ⟨lw_p62, List.forall_mem_cons.mpr ⟨lw_p63, fun _ h => absurd h List.not_mem_nil⟩⟩⟩⟩⟩⟩⟩⟩⟩⟩⟩⟩⟩⟩⟩⟩
theorem lw_p64 : lw_okq (⟨"StatementRules2$Machine", "keep", "(ZI)V"⟩, 20) := ⟨⟨by decide +kernel, by decide +kernel⟩, List.mem_of_getElem? (i := 320) (by decide +kernel), List.mem_of_getElem? (i := 1136) (by decide +kernel), List.mem_of_getElem? (i := 1137) (by decide +kernel)⟩
theorem lw_p65 : lw_okq (⟨"StatementRules2$Machine", "compareCase", "(I)V"⟩, 20) := ⟨⟨by decide +kernel, by decide +kernel⟩, List.mem_of_getElem? (i := 320) (by decide +kernel), List.mem_of_getElem? (i := 1140) (by decide +kernel), List.mem_of_getElem? (i := 1141) (by decide +kernel)⟩
theorem lw_p66 : lw_okq (⟨"StatementRules2$Machine", "fillRow", "(I)V"⟩, 20) := ⟨⟨by decide +kernel, by decide +kernel⟩, List.mem_of_getElem? (i := 320) (by decide +kernel), List.mem_of_getElem? (i := 1144) (by decide +kernel), List.mem_of_getElem? (i := 1145) (by decide +kernel)⟩
theorem lw_p67 : lw_okq (⟨"StatementRules2$Machine", "act", "(II)V"⟩, 20) := ⟨⟨by decide +kernel, by decide +kernel⟩, List.mem_of_getElem? (i := 320) (by decide +kernel), List.mem_of_getElem? (i := 1148) (by decide +kernel), List.mem_of_getElem? (i := 1149) (by decide +kernel)⟩
theorem lw_p68 : lw_okq (⟨"StatementRules2$Machine", "step", "()V"⟩, 20) := ⟨⟨by decide +kernel, by decide +kernel⟩, List.mem_of_getElem? (i := 320) (by decide +kernel), List.mem_of_getElem? (i := 1152) (by decide +kernel), List.mem_of_getElem? (i := 1153) (by decide +kernel)⟩
theorem lw_p69 : lw_okq (⟨"StatementRules2$Machine", "note", "(II)V"⟩, 20) := ⟨⟨by decide +kernel, by decide +kernel⟩, List.mem_of_getElem? (i := 320) (by decide +kernel), List.mem_of_getElem? (i := 1156) (by decide +kernel), List.mem_of_getElem? (i := 1157) (by decide +kernel)⟩
theorem lw_p70 : lw_okq (⟨"StatementRules2$Machine", "enter", "(II)V"⟩, 20) := ⟨⟨by decide +kernel, by decide +kernel⟩, List.mem_of_getElem? (i := 320) (by decide +kernel), List.mem_of_getElem? (i := 1160) (by decide +kernel), List.mem_of_getElem? (i := 1161) (by decide +kernel)⟩
theorem lw_p71 : lw_okq (⟨"StatementRules2$Machine", "openOne", "(I)V"⟩, 20) := ⟨⟨by decide +kernel, by decide +kernel⟩, List.mem_of_getElem? (i := 320) (by decide +kernel), List.mem_of_getElem? (i := 1195) (by decide +kernel), List.mem_of_getElem? (i := 1196) (by decide +kernel)⟩
theorem lw_p72 : lw_okq (⟨"StatementRules2$Machine", "turn", "(II)V"⟩, 20) := ⟨⟨by decide +kernel, by decide +kernel⟩, List.mem_of_getElem? (i := 320) (by decide +kernel), List.mem_of_getElem? (i := 1199) (by decide +kernel), List.mem_of_getElem? (i := 1200) (by decide +kernel)⟩
theorem lw_p73 : lw_okq (⟨"StatementRules2$Machine", "frame", "(I)LStatementRules2$Frame;"⟩, 20) := ⟨⟨by decide +kernel, by decide +kernel⟩, List.mem_of_getElem? (i := 320) (by decide +kernel), List.mem_of_getElem? (i := 1203) (by decide +kernel), List.mem_of_getElem? (i := 1204) (by decide +kernel)⟩
theorem lw_p74 : lw_okq (⟨"StatementRules2$Machine", "throwAgain", "(LStatementRules2$Frame;)V"⟩, 20) := ⟨⟨by decide +kernel, by decide +kernel⟩, List.mem_of_getElem? (i := 320) (by decide +kernel), List.mem_of_getElem? (i := 1207) (by decide +kernel), List.mem_of_getElem? (i := 1208) (by decide +kernel)⟩
theorem lw_p75 : lw_okq (⟨"StatementRules2$Machine", "resume", "(LStatementRules2$Frame;)V"⟩, 20) := ⟨⟨by decide +kernel, by decide +kernel⟩, List.mem_of_getElem? (i := 320) (by decide +kernel), List.mem_of_getElem? (i := 1211) (by decide +kernel), List.mem_of_getElem? (i := 1212) (by decide +kernel)⟩
theorem lw_p76 : lw_okq (⟨"StatementRules2$Machine", "handle", "(IILStatementRules2$Frame;)V"⟩, 20) := ⟨⟨by decide +kernel, by decide +kernel⟩, List.mem_of_getElem? (i := 320) (by decide +kernel), List.mem_of_getElem? (i := 1215) (by decide +kernel), List.mem_of_getElem? (i := 1216) (by decide +kernel)⟩
theorem lw_p77 : lw_okq (⟨"StatementRules2$Machine", "leaveOne", "()V"⟩, 20) := ⟨⟨by decide +kernel, by decide +kernel⟩, List.mem_of_getElem? (i := 320) (by decide +kernel), List.mem_of_getElem? (i := 1220) (by decide +kernel), List.mem_of_getElem? (i := 1221) (by decide +kernel)⟩
theorem lw_p78 : lw_okq (⟨"StatementRules2$Machine", "arrive", "()V"⟩, 20) := ⟨⟨by decide +kernel, by decide +kernel⟩, List.mem_of_getElem? (i := 320) (by decide +kernel), List.mem_of_getElem? (i := 1224) (by decide +kernel), List.mem_of_getElem? (i := 1225) (by decide +kernel)⟩
theorem lw_p79 : lw_okq (⟨"StatementRules2$Machine", "leaveBody", "(LStatementRules2$Frame;)V"⟩, 20) := ⟨⟨by decide +kernel, by decide +kernel⟩, List.mem_of_getElem? (i := 320) (by decide +kernel), List.mem_of_getElem? (i := 1228) (by decide +kernel), List.mem_of_getElem? (i := 1229) (by decide +kernel)⟩
def lw_privs_5 : List (MethodName × Nat) := [(⟨"StatementRules2$Machine", "keep", "(ZI)V"⟩, 20), (⟨"StatementRules2$Machine", "compareCase", "(I)V"⟩, 20), (⟨"StatementRules2$Machine", "fillRow", "(I)V"⟩, 20), (⟨"StatementRules2$Machine", "act", "(II)V"⟩, 20), (⟨"StatementRules2$Machine", "step", "()V"⟩, 20), (⟨"StatementRules2$Machine", "note", "(II)V"⟩, 20), (⟨"StatementRules2$Machine", "enter", "(II)V"⟩, 20), (⟨"StatementRules2$Machine", "openOne", "(I)V"⟩, 20), (⟨"StatementRules2$Machine", "turn", "(II)V"⟩, 20), (⟨"StatementRules2$Machine", "frame", "(I)LStatementRules2$Frame;"⟩, 20), (⟨"StatementRules2$Machine", "throwAgain", "(LStatementRules2$Frame;)V"⟩, 20), (⟨"StatementRules2$Machine", "resume", "(LStatementRules2$Frame;)V"⟩, 20), (⟨"StatementRules2$Machine", "handle", "(IILStatementRules2$Frame;)V"⟩, 20), (⟨"StatementRules2$Machine", "leaveOne", "()V"⟩, 20), (⟨"StatementRules2$Machine", "arrive", "()V"⟩, 20), (⟨"StatementRules2$Machine", "leaveBody", "(LStatementRules2$Frame;)V"⟩, 20)]
theorem lw_r5 : ∀ q ∈ lw_privs_5, lw_okq q := List.forall_mem_cons.mpr ⟨lw_p64, List.forall_mem_cons.mpr ⟨lw_p65, List.forall_mem_cons.mpr ⟨lw_p66, List.forall_mem_cons.mpr ⟨lw_p67, List.forall_mem_cons.mpr ⟨lw_p68, List.forall_mem_cons.mpr ⟨lw_p69, List.forall_mem_cons.mpr ⟨lw_p70, List.forall_mem_cons.mpr ⟨lw_p71, List.forall_mem_cons.mpr ⟨lw_p72, List.forall_mem_cons.mpr ⟨lw_p73, List.forall_mem_cons.mpr ⟨lw_p74, List.forall_mem_cons.mpr ⟨lw_p75, List.forall_mem_cons.mpr ⟨lw_p76, List.forall_mem_cons.mpr ⟨lw_p77, List.forall_mem_cons.mpr ⟨lw_p78, List.forall_mem_cons.mpr ⟨lw_p79, fun _ h => absurd h List.not_mem_nil⟩⟩⟩⟩⟩⟩⟩⟩⟩⟩⟩⟩⟩⟩⟩⟩
theorem lw_p80 : lw_okq (⟨"StatementRules2$Machine", "closeOne", "(I)V"⟩, 20) := ⟨⟨by decide +kernel, by decide +kernel⟩, List.mem_of_getElem? (i := 320) (by decide +kernel), List.mem_of_getElem? (i := 1232) (by decide +kernel), List.mem_of_getElem? (i := 1233) (by decide +kernel)⟩
theorem lw_p81 : lw_okq (⟨"StatementRules2$Machine", "begin", "(LStatementRules2$Frame;I)V"⟩, 20) := ⟨⟨by decide +kernel, by decide +kernel⟩, List.mem_of_getElem? (i := 320) (by decide +kernel), List.mem_of_getElem? (i := 1241) (by decide +kernel), List.mem_of_getElem? (i := 1242) (by decide +kernel)⟩
theorem lw_p82 : lw_okq (⟨"StatementRules2$Machine", "enterFinally", "(LStatementRules2$Frame;)V"⟩, 20) := ⟨⟨by decide +kernel, by decide +kernel⟩, List.mem_of_getElem? (i := 320) (by decide +kernel), List.mem_of_getElem? (i := 1245) (by decide +kernel), List.mem_of_getElem? (i := 1246) (by decide +kernel)⟩
theorem lw_p83 : lw_okq (⟨"java/lang/Throwable", "fillInStackTrace", "(I)Ljava/lang/Throwable;"⟩, 6) := ⟨⟨by decide +kernel, by decide +kernel⟩, List.mem_of_getElem? (i := 1320) (by decide +kernel), List.mem_of_getElem? (i := 1318) (by decide +kernel), List.mem_of_getElem? (i := 1319) (by decide +kernel)⟩
theorem lw_p84 : lw_okq (⟨"StatementRules2Model", "isUnder", "(II)Z"⟩, 116) := ⟨⟨by decide +kernel, by decide +kernel⟩, List.mem_of_getElem? (i := 1345) (by decide +kernel), List.mem_of_getElem? (i := 1749) (by decide +kernel), List.mem_of_getElem? (i := 1750) (by decide +kernel)⟩
theorem lw_p85 : lw_okq (⟨"StatementRules2Model", "see", "(JZ)I"⟩, 116) := ⟨⟨by decide +kernel, by decide +kernel⟩, List.mem_of_getElem? (i := 1345) (by decide +kernel), List.mem_of_getElem? (i := 1766) (by decide +kernel), List.mem_of_getElem? (i := 1767) (by decide +kernel)⟩
theorem lw_p86 : lw_okq (⟨"StatementRules2Model", "next", "()V"⟩, 116) := ⟨⟨by decide +kernel, by decide +kernel⟩, List.mem_of_getElem? (i := 1345) (by decide +kernel), List.mem_of_getElem? (i := 1771) (by decide +kernel), List.mem_of_getElem? (i := 1772) (by decide +kernel)⟩
theorem lw_p87 : lw_okq (⟨"StatementRules2Model", "at", "(I)I"⟩, 116) := ⟨⟨by decide +kernel, by decide +kernel⟩, List.mem_of_getElem? (i := 1345) (by decide +kernel), List.mem_of_getElem? (i := 1775) (by decide +kernel), List.mem_of_getElem? (i := 1776) (by decide +kernel)⟩
theorem lw_p88 : lw_okq (⟨"StatementRules2Model", "readName", "()V"⟩, 116) := ⟨⟨by decide +kernel, by decide +kernel⟩, List.mem_of_getElem? (i := 1345) (by decide +kernel), List.mem_of_getElem? (i := 1785) (by decide +kernel), List.mem_of_getElem? (i := 1786) (by decide +kernel)⟩
theorem lw_p89 : lw_okq (⟨"StatementRules2Model", "readSign", "(I)V"⟩, 116) := ⟨⟨by decide +kernel, by decide +kernel⟩, List.mem_of_getElem? (i := 1345) (by decide +kernel), List.mem_of_getElem? (i := 1789) (by decide +kernel), List.mem_of_getElem? (i := 1790) (by decide +kernel)⟩
theorem lw_p90 : lw_okq (⟨"StatementRules2Model", "parse", "()V"⟩, 116) := ⟨⟨by decide +kernel, by decide +kernel⟩, List.mem_of_getElem? (i := 1345) (by decide +kernel), List.mem_of_getElem? (i := 1793) (by decide +kernel), List.mem_of_getElem? (i := 1794) (by decide +kernel)⟩
theorem lw_p91 : lw_okq (⟨"StatementRules2Model", "push", "(I)V"⟩, 116) := ⟨⟨by decide +kernel, by decide +kernel⟩, List.mem_of_getElem? (i := 1345) (by decide +kernel), List.mem_of_getElem? (i := 1797) (by decide +kernel), List.mem_of_getElem? (i := 1798) (by decide +kernel)⟩
theorem lw_p92 : lw_okq (⟨"StatementRules2Model", "list", "(I)V"⟩, 116) := ⟨⟨by decide +kernel, by decide +kernel⟩, List.mem_of_getElem? (i := 1345) (by decide +kernel), List.mem_of_getElem? (i := 1801) (by decide +kernel), List.mem_of_getElem? (i := 1802) (by decide +kernel)⟩
theorem lw_p93 : lw_okq (⟨"StatementRules2Model", "over", "(Z)V"⟩, 116) := ⟨⟨by decide +kernel, by decide +kernel⟩, List.mem_of_getElem? (i := 1345) (by decide +kernel), List.mem_of_getElem? (i := 1805) (by decide +kernel), List.mem_of_getElem? (i := 1806) (by decide +kernel)⟩
theorem lw_p94 : lw_okq (⟨"StatementRules2Model", "note", "(I)V"⟩, 116) := ⟨⟨by decide +kernel, by decide +kernel⟩, List.mem_of_getElem? (i := 1345) (by decide +kernel), List.mem_of_getElem? (i := 1809) (by decide +kernel), List.mem_of_getElem? (i := 1810) (by decide +kernel)⟩
theorem lw_p95 : lw_okq (⟨"StatementRules2Model", "then", "(II)V"⟩, 116) := ⟨⟨by decide +kernel, by decide +kernel⟩, List.mem_of_getElem? (i := 1345) (by decide +kernel), List.mem_of_getElem? (i := 1813) (by decide +kernel), List.mem_of_getElem? (i := 1814) (by decide +kernel)⟩
def lw_privs_6 : List (MethodName × Nat) := [(⟨"StatementRules2$Machine", "closeOne", "(I)V"⟩, 20), (⟨"StatementRules2$Machine", "begin", "(LStatementRules2$Frame;I)V"⟩, 20), (⟨"StatementRules2$Machine", "enterFinally", "(LStatementRules2$Frame;)V"⟩, 20), (⟨"java/lang/Throwable", "fillInStackTrace", "(I)Ljava/lang/Throwable;"⟩, 6), (⟨"StatementRules2Model", "isUnder", "(II)Z"⟩, 116), (⟨"StatementRules2Model", "see", "(JZ)I"⟩, 116), (⟨"StatementRules2Model", "next", "()V"⟩, 116), (⟨"StatementRules2Model", "at", "(I)I"⟩, 116), (⟨"StatementRules2Model", "readName", "()V"⟩, 116), (⟨"StatementRules2Model", "readSign", "(I)V"⟩, 116), (⟨"StatementRules2Model", "parse", "()V"⟩, 116), (⟨"StatementRules2Model", "push", "(I)V"⟩, 116), (⟨"StatementRules2Model", "list", "(I)V"⟩, 116), (⟨"StatementRules2Model", "over", "(Z)V"⟩, 116), (⟨"StatementRules2Model", "note", "(I)V"⟩, 116), (⟨"StatementRules2Model", "then", "(II)V"⟩, 116)]
theorem lw_r6 : ∀ q ∈ lw_privs_6, lw_okq q := List.forall_mem_cons.mpr ⟨lw_p80, List.forall_mem_cons.mpr ⟨lw_p81, List.forall_mem_cons.mpr ⟨lw_p82, List.forall_mem_cons.mpr ⟨lw_p83, List.forall_mem_cons.mpr ⟨lw_p84, List.forall_mem_cons.mpr ⟨lw_p85, List.forall_mem_cons.mpr ⟨lw_p86, List.forall_mem_cons.mpr ⟨lw_p87, List.forall_mem_cons.mpr ⟨lw_p88, List.forall_mem_cons.mpr ⟨lw_p89, List.forall_mem_cons.mpr ⟨lw_p90, List.forall_mem_cons.mpr ⟨lw_p91, List.forall_mem_cons.mpr ⟨lw_p92, List.forall_mem_cons.mpr ⟨lw_p93, List.forall_mem_cons.mpr ⟨lw_p94, List.forall_mem_cons.mpr ⟨lw_p95, fun _ h => absurd h List.not_mem_nil⟩⟩⟩⟩⟩⟩⟩⟩⟩⟩⟩⟩⟩⟩⟩⟩
theorem lw_p96 : lw_okq (⟨"StatementRules2Model", "stat", "(I)V"⟩, 116) := ⟨⟨by decide +kernel, by decide +kernel⟩, List.mem_of_getElem? (i := 1345) (by decide +kernel), List.mem_of_getElem? (i := 1817) (by decide +kernel), List.mem_of_getElem? (i := 1818) (by decide +kernel)⟩
theorem lw_p97 : lw_okq (⟨"StatementRules2Model", "emit", "(II)I"⟩, 116) := ⟨⟨by decide +kernel, by decide +kernel⟩, List.mem_of_getElem? (i := 1345) (by decide +kernel), List.mem_of_getElem? (i := 1821) (by decide +kernel), List.mem_of_getElem? (i := 1822) (by decide +kernel)⟩
theorem lw_p98 : lw_okq (⟨"StatementRules2Model", "can", "(Z)Z"⟩, 116) := ⟨⟨by decide +kernel, by decide +kernel⟩, List.mem_of_getElem? (i := 1345) (by decide +kernel), List.mem_of_getElem? (i := 1825) (by decide +kernel), List.mem_of_getElem? (i := 1826) (by decide +kernel)⟩
theorem lw_p99 : lw_okq (⟨"StatementRules2Model", "fail", "(II)V"⟩, 116) := ⟨⟨by decide +kernel, by decide +kernel⟩, List.mem_of_getElem? (i := 1345) (by decide +kernel), List.mem_of_getElem? (i := 1829) (by decide +kernel), List.mem_of_getElem? (i := 1830) (by decide +kernel)⟩
theorem lw_p100 : lw_okq (⟨"StatementRules2Model", "jump", "()V"⟩, 116) := ⟨⟨by decide +kernel, by decide +kernel⟩, List.mem_of_getElem? (i := 1345) (by decide +kernel), List.mem_of_getElem? (i := 1833) (by decide +kernel), List.mem_of_getElem? (i := 1834) (by decide +kernel)⟩
theorem lw_p101 : lw_okq (⟨"StatementRules2Model", "pend", "(IZ)V"⟩, 116) := ⟨⟨by decide +kernel, by decide +kernel⟩, List.mem_of_getElem? (i := 1345) (by decide +kernel), List.mem_of_getElem? (i := 1837) (by decide +kernel), List.mem_of_getElem? (i := 1838) (by decide +kernel)⟩
theorem lw_p102 : lw_okq (⟨"StatementRules2Model", "goes", "(IZ)V"⟩, 116) := ⟨⟨by decide +kernel, by decide +kernel⟩, List.mem_of_getElem? (i := 1345) (by decide +kernel), List.mem_of_getElem? (i := 1841) (by decide +kernel), List.mem_of_getElem? (i := 1842) (by decide +kernel)⟩
theorem lw_p103 : lw_okq (⟨"StatementRules2Model", "need", "(I)Z"⟩, 116) := ⟨⟨by decide +kernel, by decide +kernel⟩, List.mem_of_getElem? (i := 1345) (by decide +kernel), List.mem_of_getElem? (i := 1845) (by decide +kernel), List.mem_of_getElem? (i := 1846) (by decide +kernel)⟩
theorem lw_p104 : lw_okq (⟨"StatementRules2Model", "block", "(I)V"⟩, 116) := ⟨⟨by decide +kernel, by decide +kernel⟩, List.mem_of_getElem? (i := 1345) (by decide +kernel), List.mem_of_getElem? (i := 1849) (by decide +kernel), List.mem_of_getElem? (i := 1850) (by decide +kernel)⟩
theorem lw_p105 : lw_okq (⟨"StatementRules2Model", "open", "(I)Z"⟩, 116) := ⟨⟨by decide +kernel, by decide +kernel⟩, List.mem_of_getElem? (i := 1345) (by decide +kernel), List.mem_of_getElem? (i := 1853) (by decide +kernel), List.mem_of_getElem? (i := 1854) (by decide +kernel)⟩
theorem lw_p106 : lw_okq (⟨"StatementRules2Model", "opens", "()Z"⟩, 116) := ⟨⟨by decide +kernel, by decide +kernel⟩, List.mem_of_getElem? (i := 1345) (by decide +kernel), List.mem_of_getElem? (i := 1857) (by decide +kernel), List.mem_of_getElem? (i := 1858) (by decide +kernel)⟩
theorem lw_p107 : lw_okq (⟨"StatementRules2Model", "shut", "(I)Z"⟩, 116) := ⟨⟨by decide +kernel, by decide +kernel⟩, List.mem_of_getElem? (i := 1345) (by decide +kernel), List.mem_of_getElem? (i := 1861) (by decide +kernel), List.mem_of_getElem? (i := 1862) (by decide +kernel)⟩
theorem lw_p108 : lw_okq (⟨"StatementRules2Model", "tell", "(I)V"⟩, 116) := ⟨⟨by decide +kernel, by decide +kernel⟩, List.mem_of_getElem? (i := 1345) (by decide +kernel), List.mem_of_getElem? (i := 1865) (by decide +kernel), List.mem_of_getElem? (i := 1866) (by decide +kernel)⟩
theorem lw_p109 : lw_okq (⟨"StatementRules2Model", "telling", "(I)Z"⟩, 116) := ⟨⟨by decide +kernel, by decide +kernel⟩, List.mem_of_getElem? (i := 1345) (by decide +kernel), List.mem_of_getElem? (i := 1869) (by decide +kernel), List.mem_of_getElem? (i := 1870) (by decide +kernel)⟩
theorem lw_p110 : lw_okq (⟨"StatementRules2Model", "seenAs", "(J)I"⟩, 116) := ⟨⟨by decide +kernel, by decide +kernel⟩, List.mem_of_getElem? (i := 1345) (by decide +kernel), List.mem_of_getElem? (i := 1873) (by decide +kernel), List.mem_of_getElem? (i := 1874) (by decide +kernel)⟩
theorem lw_p111 : lw_okq (⟨"StatementRules2Model", "named", "(I)V"⟩, 116) := ⟨⟨by decide +kernel, by decide +kernel⟩, List.mem_of_getElem? (i := 1345) (by decide +kernel), List.mem_of_getElem? (i := 1877) (by decide +kernel), List.mem_of_getElem? (i := 1878) (by decide +kernel)⟩
def lw_privs_7 : List (MethodName × Nat) := [(⟨"StatementRules2Model", "stat", "(I)V"⟩, 116), (⟨"StatementRules2Model", "emit", "(II)I"⟩, 116), (⟨"StatementRules2Model", "can", "(Z)Z"⟩, 116), (⟨"StatementRules2Model", "fail", "(II)V"⟩, 116), (⟨"StatementRules2Model", "jump", "()V"⟩, 116), (⟨"StatementRules2Model", "pend", "(IZ)V"⟩, 116), (⟨"StatementRules2Model", "goes", "(IZ)V"⟩, 116), (⟨"StatementRules2Model", "need", "(I)Z"⟩, 116), (⟨"StatementRules2Model", "block", "(I)V"⟩, 116), (⟨"StatementRules2Model", "open", "(I)Z"⟩, 116), (⟨"StatementRules2Model", "opens", "()Z"⟩, 116), (⟨"StatementRules2Model", "shut", "(I)Z"⟩, 116), (⟨"StatementRules2Model", "tell", "(I)V"⟩, 116), (⟨"StatementRules2Model", "telling", "(I)Z"⟩, 116), (⟨"StatementRules2Model", "seenAs", "(J)I"⟩, 116), (⟨"StatementRules2Model", "named", "(I)V"⟩, 116)]
theorem lw_r7 : ∀ q ∈ lw_privs_7, lw_okq q := List.forall_mem_cons.mpr ⟨lw_p96, List.forall_mem_cons.mpr ⟨lw_p97, List.forall_mem_cons.mpr ⟨lw_p98, List.forall_mem_cons.mpr ⟨lw_p99, List.forall_mem_cons.mpr ⟨lw_p100, List.forall_mem_cons.mpr ⟨lw_p101, List.forall_mem_cons.mpr ⟨lw_p102, List.forall_mem_cons.mpr ⟨lw_p103, List.forall_mem_cons.mpr ⟨lw_p104, List.forall_mem_cons.mpr ⟨lw_p105, List.forall_mem_cons.mpr ⟨lw_p106, List.forall_mem_cons.mpr ⟨lw_p107, List.forall_mem_cons.mpr ⟨lw_p108, List.forall_mem_cons.mpr ⟨lw_p109, List.forall_mem_cons.mpr ⟨lw_p110, List.forall_mem_cons.mpr ⟨lw_p111, fun _ h => absurd h List.not_mem_nil⟩⟩⟩⟩⟩⟩⟩⟩⟩⟩⟩⟩⟩⟩⟩⟩
theorem lw_p112 : lw_okq (⟨"StatementRules2Model", "patch", "(II)V"⟩, 116) := ⟨⟨by decide +kernel, by decide +kernel⟩, List.mem_of_getElem? (i := 1345) (by decide +kernel), List.mem_of_getElem? (i := 1881) (by decide +kernel), List.mem_of_getElem? (i := 1882) (by decide +kernel)⟩
theorem lw_p113 : lw_okq (⟨"StatementRules2Model", "label", "(IJI)V"⟩, 116) := ⟨⟨by decide +kernel, by decide +kernel⟩, List.mem_of_getElem? (i := 1345) (by decide +kernel), List.mem_of_getElem? (i := 1885) (by decide +kernel), List.mem_of_getElem? (i := 1886) (by decide +kernel)⟩
theorem lw_p114 : lw_okq (⟨"StatementRules2Model", "goal", "(IJ)I"⟩, 116) := ⟨⟨by decide +kernel, by decide +kernel⟩, List.mem_of_getElem? (i := 1345) (by decide +kernel), List.mem_of_getElem? (i := 1889) (by decide +kernel), List.mem_of_getElem? (i := 1890) (by decide +kernel)⟩
theorem lw_p115 : lw_okq (⟨"StatementRules2Model", "body", "(I)V"⟩, 116) := ⟨⟨by decide +kernel, by decide +kernel⟩, List.mem_of_getElem? (i := 1345) (by decide +kernel), List.mem_of_getElem? (i := 1893) (by decide +kernel), List.mem_of_getElem? (i := 1894) (by decide +kernel)⟩
theorem lw_p116 : lw_okq (⟨"StatementRules2Model", "got", "(JI)I"⟩, 116) := ⟨⟨by decide +kernel, by decide +kernel⟩, List.mem_of_getElem? (i := 1345) (by decide +kernel), List.mem_of_getElem? (i := 1897) (by decide +kernel), List.mem_of_getElem? (i := 1898) (by decide +kernel)⟩
theorem lw_p117 : lw_okq (⟨"StatementRules2Model", "ending", "(I)V"⟩, 116) := ⟨⟨by decide +kernel, by decide +kernel⟩, List.mem_of_getElem? (i := 1345) (by decide +kernel), List.mem_of_getElem? (i := 1901) (by decide +kernel), List.mem_of_getElem? (i := 1902) (by decide +kernel)⟩
theorem lw_p118 : lw_okq (⟨"StatementRules2Model", "isInArms", "()Z"⟩, 116) := ⟨⟨by decide +kernel, by decide +kernel⟩, List.mem_of_getElem? (i := 1345) (by decide +kernel), List.mem_of_getElem? (i := 1905) (by decide +kernel), List.mem_of_getElem? (i := 1906) (by decide +kernel)⟩
theorem lw_p119 : lw_okq (⟨"StatementRules2Model", "throwing", "(I)V"⟩, 116) := ⟨⟨by decide +kernel, by decide +kernel⟩, List.mem_of_getElem? (i := 1345) (by decide +kernel), List.mem_of_getElem? (i := 1909) (by decide +kernel), List.mem_of_getElem? (i := 1910) (by decide +kernel)⟩
theorem lw_p120 : lw_okq (⟨"StatementRules2Model", "asserted", "(I)V"⟩, 116) := ⟨⟨by decide +kernel, by decide +kernel⟩, List.mem_of_getElem? (i := 1345) (by decide +kernel), List.mem_of_getElem? (i := 1913) (by decide +kernel), List.mem_of_getElem? (i := 1914) (by decide +kernel)⟩
theorem lw_p121 : lw_okq (⟨"StatementRules2Model", "branch", "(I)V"⟩, 116) := ⟨⟨by decide +kernel, by decide +kernel⟩, List.mem_of_getElem? (i := 1345) (by decide +kernel), List.mem_of_getElem? (i := 1917) (by decide +kernel), List.mem_of_getElem? (i := 1918) (by decide +kernel)⟩
theorem lw_p122 : lw_okq (⟨"StatementRules2Model", "whiles", "(I)V"⟩, 116) := ⟨⟨by decide +kernel, by decide +kernel⟩, List.mem_of_getElem? (i := 1345) (by decide +kernel), List.mem_of_getElem? (i := 1921) (by decide +kernel), List.mem_of_getElem? (i := 1922) (by decide +kernel)⟩
theorem lw_p123 : lw_okq (⟨"StatementRules2Model", "isJustTrue", "(I)Z"⟩, 116) := ⟨⟨by decide +kernel, by decide +kernel⟩, List.mem_of_getElem? (i := 1345) (by decide +kernel), List.mem_of_getElem? (i := 1925) (by decide +kernel), List.mem_of_getElem? (i := 1926) (by decide +kernel)⟩
theorem lw_p124 : lw_okq (⟨"StatementRules2Model", "loopGoal", "()I"⟩, 116) := ⟨⟨by decide +kernel, by decide +kernel⟩, List.mem_of_getElem? (i := 1345) (by decide +kernel), List.mem_of_getElem? (i := 1929) (by decide +kernel), List.mem_of_getElem? (i := 1930) (by decide +kernel)⟩
theorem lw_p125 : lw_okq (⟨"StatementRules2Model", "repeats", "(I)V"⟩, 116) := ⟨⟨by decide +kernel, by decide +kernel⟩, List.mem_of_getElem? (i := 1345) (by decide +kernel), List.mem_of_getElem? (i := 1933) (by decide +kernel), List.mem_of_getElem? (i := 1934) (by decide +kernel)⟩
theorem lw_p126 : lw_okq (⟨"StatementRules2Model", "fors", "(I)V"⟩, 116) := ⟨⟨by decide +kernel, by decide +kernel⟩, List.mem_of_getElem? (i := 1345) (by decide +kernel), List.mem_of_getElem? (i := 1937) (by decide +kernel), List.mem_of_getElem? (i := 1938) (by decide +kernel)⟩
theorem lw_p127 : lw_okq (⟨"StatementRules2Model", "forHead", "(I)V"⟩, 116) := ⟨⟨by decide +kernel, by decide +kernel⟩, List.mem_of_getElem? (i := 1345) (by decide +kernel), List.mem_of_getElem? (i := 1941) (by decide +kernel), List.mem_of_getElem? (i := 1942) (by decide +kernel)⟩
def lw_privs_8 : List (MethodName × Nat) := [(⟨"StatementRules2Model", "patch", "(II)V"⟩, 116), (⟨"StatementRules2Model", "label", "(IJI)V"⟩, 116), (⟨"StatementRules2Model", "goal", "(IJ)I"⟩, 116), (⟨"StatementRules2Model", "body", "(I)V"⟩, 116), (⟨"StatementRules2Model", "got", "(JI)I"⟩, 116), (⟨"StatementRules2Model", "ending", "(I)V"⟩, 116), (⟨"StatementRules2Model", "isInArms", "()Z"⟩, 116), (⟨"StatementRules2Model", "throwing", "(I)V"⟩, 116), (⟨"StatementRules2Model", "asserted", "(I)V"⟩, 116), (⟨"StatementRules2Model", "branch", "(I)V"⟩, 116), (⟨"StatementRules2Model", "whiles", "(I)V"⟩, 116), (⟨"StatementRules2Model", "isJustTrue", "(I)Z"⟩, 116), (⟨"StatementRules2Model", "loopGoal", "()I"⟩, 116), (⟨"StatementRules2Model", "repeats", "(I)V"⟩, 116), (⟨"StatementRules2Model", "fors", "(I)V"⟩, 116), (⟨"StatementRules2Model", "forHead", "(I)V"⟩, 116)]
theorem lw_r8 : ∀ q ∈ lw_privs_8, lw_okq q := List.forall_mem_cons.mpr ⟨lw_p112, List.forall_mem_cons.mpr ⟨lw_p113, List.forall_mem_cons.mpr ⟨lw_p114, List.forall_mem_cons.mpr ⟨lw_p115, List.forall_mem_cons.mpr ⟨lw_p116, List.forall_mem_cons.mpr ⟨lw_p117, List.forall_mem_cons.mpr ⟨lw_p118, List.forall_mem_cons.mpr ⟨lw_p119, List.forall_mem_cons.mpr ⟨lw_p120, List.forall_mem_cons.mpr ⟨lw_p121, List.forall_mem_cons.mpr ⟨lw_p122, List.forall_mem_cons.mpr ⟨lw_p123, List.forall_mem_cons.mpr ⟨lw_p124, List.forall_mem_cons.mpr ⟨lw_p125, List.forall_mem_cons.mpr ⟨lw_p126, List.forall_mem_cons.mpr ⟨lw_p127, fun _ h => absurd h List.not_mem_nil⟩⟩⟩⟩⟩⟩⟩⟩⟩⟩⟩⟩⟩⟩⟩⟩
theorem lw_p128 : lw_okq (⟨"StatementRules2Model", "forBehind", "(I)V"⟩, 116) := ⟨⟨by decide +kernel, by decide +kernel⟩, List.mem_of_getElem? (i := 1345) (by decide +kernel), List.mem_of_getElem? (i := 1945) (by decide +kernel), List.mem_of_getElem? (i := 1946) (by decide +kernel)⟩
theorem lw_p129 : lw_okq (⟨"StatementRules2Model", "rows", "(I)V"⟩, 116) := ⟨⟨by decide +kernel, by decide +kernel⟩, List.mem_of_getElem? (i := 1345) (by decide +kernel), List.mem_of_getElem? (i := 1949) (by decide +kernel), List.mem_of_getElem? (i := 1950) (by decide +kernel)⟩
theorem lw_p130 : lw_okq (⟨"StatementRules2Model", "lock", "(I)V"⟩, 116) := ⟨⟨by decide +kernel, by decide +kernel⟩, List.mem_of_getElem? (i := 1345) (by decide +kernel), List.mem_of_getElem? (i := 1953) (by decide +kernel), List.mem_of_getElem? (i := 1954) (by decide +kernel)⟩
theorem lw_p131 : lw_okq (⟨"StatementRules2Model", "groups", "(I)V"⟩, 116) := ⟨⟨by decide +kernel, by decide +kernel⟩, List.mem_of_getElem? (i := 1345) (by decide +kernel), List.mem_of_getElem? (i := 1957) (by decide +kernel), List.mem_of_getElem? (i := 1958) (by decide +kernel)⟩
theorem lw_p132 : lw_okq (⟨"StatementRules2Model", "caseNumber", "(I)Z"⟩, 116) := ⟨⟨by decide +kernel, by decide +kernel⟩, List.mem_of_getElem? (i := 1345) (by decide +kernel), List.mem_of_getElem? (i := 1961) (by decide +kernel), List.mem_of_getElem? (i := 1962) (by decide +kernel)⟩
theorem lw_p133 : lw_okq (⟨"StatementRules2Model", "entry", "(IIZ)V"⟩, 116) := ⟨⟨by decide +kernel, by decide +kernel⟩, List.mem_of_getElem? (i := 1345) (by decide +kernel), List.mem_of_getElem? (i := 1965) (by decide +kernel), List.mem_of_getElem? (i := 1966) (by decide +kernel)⟩
theorem lw_p134 : lw_okq (⟨"StatementRules2Model", "trying", "(I)V"⟩, 116) := ⟨⟨by decide +kernel, by decide +kernel⟩, List.mem_of_getElem? (i := 1345) (by decide +kernel), List.mem_of_getElem? (i := 1969) (by decide +kernel), List.mem_of_getElem? (i := 1970) (by decide +kernel)⟩
theorem lw_p135 : lw_okq (⟨"StatementRules2Model", "catching", "(I)V"⟩, 116) := ⟨⟨by decide +kernel, by decide +kernel⟩, List.mem_of_getElem? (i := 1345) (by decide +kernel), List.mem_of_getElem? (i := 1973) (by decide +kernel), List.mem_of_getElem? (i := 1974) (by decide +kernel)⟩
theorem lw_p136 : lw_okq (⟨"StatementRules2Model", "endTry", "(IZ)V"⟩, 116) := ⟨⟨by decide +kernel, by decide +kernel⟩, List.mem_of_getElem? (i := 1345) (by decide +kernel), List.mem_of_getElem? (i := 1977) (by decide +kernel), List.mem_of_getElem? (i := 1978) (by decide +kernel)⟩
theorem lw_p137 : lw_okq (⟨"StatementRules2Model", "resolve", "(IZ)V"⟩, 116) := ⟨⟨by decide +kernel, by decide +kernel⟩, List.mem_of_getElem? (i := 1345) (by decide +kernel), List.mem_of_getElem? (i := 1981) (by decide +kernel), List.mem_of_getElem? (i := 1982) (by decide +kernel)⟩
theorem lw_p138 : lw_okq (⟨"StatementRules2Model", "thing", "(I)V"⟩, 116) := ⟨⟨by decide +kernel, by decide +kernel⟩, List.mem_of_getElem? (i := 1345) (by decide +kernel), List.mem_of_getElem? (i := 1985) (by decide +kernel), List.mem_of_getElem? (i := 1986) (by decide +kernel)⟩
theorem lw_p139 : lw_okq (⟨"StatementRules2Model", "sums", "(IIZ)V"⟩, 116) := ⟨⟨by decide +kernel, by decide +kernel⟩, List.mem_of_getElem? (i := 1345) (by decide +kernel), List.mem_of_getElem? (i := 1989) (by decide +kernel), List.mem_of_getElem? (i := 1990) (by decide +kernel)⟩
theorem lw_p140 : lw_okq (⟨"StatementRules2Model", "factor", "(I)V"⟩, 116) := ⟨⟨by decide +kernel, by decide +kernel⟩, List.mem_of_getElem? (i := 1345) (by decide +kernel), List.mem_of_getElem? (i := 1993) (by decide +kernel), List.mem_of_getElem? (i := 1994) (by decide +kernel)⟩
theorem lw_p141 : lw_okq (⟨"StatementRules2Model", "arms", "(I)V"⟩, 116) := ⟨⟨by decide +kernel, by decide +kernel⟩, List.mem_of_getElem? (i := 1345) (by decide +kernel), List.mem_of_getElem? (i := 1997) (by decide +kernel), List.mem_of_getElem? (i := 1998) (by decide +kernel)⟩
theorem lw_p142 : lw_okq (⟨"StatementRules2Model", "both", "(IIII)V"⟩, 116) := ⟨⟨by decide +kernel, by decide +kernel⟩, List.mem_of_getElem? (i := 1345) (by decide +kernel), List.mem_of_getElem? (i := 2001) (by decide +kernel), List.mem_of_getElem? (i := 2002) (by decide +kernel)⟩
theorem lw_p143 : lw_okq (⟨"StatementRules2Model", "one", "(I)V"⟩, 116) := ⟨⟨by decide +kernel, by decide +kernel⟩, List.mem_of_getElem? (i := 1345) (by decide +kernel), List.mem_of_getElem? (i := 2005) (by decide +kernel), List.mem_of_getElem? (i := 2006) (by decide +kernel)⟩
def lw_privs_9 : List (MethodName × Nat) := [(⟨"StatementRules2Model", "forBehind", "(I)V"⟩, 116), (⟨"StatementRules2Model", "rows", "(I)V"⟩, 116), (⟨"StatementRules2Model", "lock", "(I)V"⟩, 116), (⟨"StatementRules2Model", "groups", "(I)V"⟩, 116), (⟨"StatementRules2Model", "caseNumber", "(I)Z"⟩, 116), (⟨"StatementRules2Model", "entry", "(IIZ)V"⟩, 116), (⟨"StatementRules2Model", "trying", "(I)V"⟩, 116), (⟨"StatementRules2Model", "catching", "(I)V"⟩, 116), (⟨"StatementRules2Model", "endTry", "(IZ)V"⟩, 116), (⟨"StatementRules2Model", "resolve", "(IZ)V"⟩, 116), (⟨"StatementRules2Model", "thing", "(I)V"⟩, 116), (⟨"StatementRules2Model", "sums", "(IIZ)V"⟩, 116), (⟨"StatementRules2Model", "factor", "(I)V"⟩, 116), (⟨"StatementRules2Model", "arms", "(I)V"⟩, 116), (⟨"StatementRules2Model", "both", "(IIII)V"⟩, 116), (⟨"StatementRules2Model", "one", "(I)V"⟩, 116)]
theorem lw_r9 : ∀ q ∈ lw_privs_9, lw_okq q := List.forall_mem_cons.mpr ⟨lw_p128, List.forall_mem_cons.mpr ⟨lw_p129, List.forall_mem_cons.mpr ⟨lw_p130, List.forall_mem_cons.mpr ⟨lw_p131, List.forall_mem_cons.mpr ⟨lw_p132, List.forall_mem_cons.mpr ⟨lw_p133, List.forall_mem_cons.mpr ⟨lw_p134, List.forall_mem_cons.mpr ⟨lw_p135, List.forall_mem_cons.mpr ⟨lw_p136, List.forall_mem_cons.mpr ⟨lw_p137, List.forall_mem_cons.mpr ⟨lw_p138, List.forall_mem_cons.mpr ⟨lw_p139, List.forall_mem_cons.mpr ⟨lw_p140, List.forall_mem_cons.mpr ⟨lw_p141, List.forall_mem_cons.mpr ⟨lw_p142, List.forall_mem_cons.mpr ⟨lw_p143, fun _ h => absurd h List.not_mem_nil⟩⟩⟩⟩⟩⟩⟩⟩⟩⟩⟩⟩⟩⟩⟩⟩
theorem lw_p144 : lw_okq (⟨"StatementRules2Model", "act", "(I)V"⟩, 116) := ⟨⟨by decide +kernel, by decide +kernel⟩, List.mem_of_getElem? (i := 1345) (by decide +kernel), List.mem_of_getElem? (i := 2021) (by decide +kernel), List.mem_of_getElem? (i := 2022) (by decide +kernel)⟩
theorem lw_p145 : lw_okq (⟨"StatementRules2Model", "step", "()V"⟩, 116) := ⟨⟨by decide +kernel, by decide +kernel⟩, List.mem_of_getElem? (i := 1345) (by decide +kernel), List.mem_of_getElem? (i := 2025) (by decide +kernel), List.mem_of_getElem? (i := 2026) (by decide +kernel)⟩
theorem lw_p146 : lw_okq (⟨"StatementRules2Model", "put", "(I)V"⟩, 116) := ⟨⟨by decide +kernel, by decide +kernel⟩, List.mem_of_getElem? (i := 1345) (by decide +kernel), List.mem_of_getElem? (i := 2029) (by decide +kernel), List.mem_of_getElem? (i := 2030) (by decide +kernel)⟩
theorem lw_p147 : lw_okq (⟨"StatementRules2Model", "take", "()I"⟩, 116) := ⟨⟨by decide +kernel, by decide +kernel⟩, List.mem_of_getElem? (i := 1345) (by decide +kernel), List.mem_of_getElem? (i := 2033) (by decide +kernel), List.mem_of_getElem? (i := 2034) (by decide +kernel)⟩
theorem lw_p148 : lw_okq (⟨"StatementRules2Model", "raise", "(II)V"⟩, 116) := ⟨⟨by decide +kernel, by decide +kernel⟩, List.mem_of_getElem? (i := 1345) (by decide +kernel), List.mem_of_getElem? (i := 2037) (by decide +kernel), List.mem_of_getElem? (i := 2038) (by decide +kernel)⟩
theorem lw_p149 : lw_okq (⟨"StatementRules2Model", "leave", "()V"⟩, 116) := ⟨⟨by decide +kernel, by decide +kernel⟩, List.mem_of_getElem? (i := 1345) (by decide +kernel), List.mem_of_getElem? (i := 2041) (by decide +kernel), List.mem_of_getElem? (i := 2042) (by decide +kernel)⟩
theorem lw_p150 : lw_okq (⟨"StatementRules2Model", "row", "(II)V"⟩, 116) := ⟨⟨by decide +kernel, by decide +kernel⟩, List.mem_of_getElem? (i := 1345) (by decide +kernel), List.mem_of_getElem? (i := 2045) (by decide +kernel), List.mem_of_getElem? (i := 2046) (by decide +kernel)⟩
theorem lw_p151 : lw_okq (⟨"StatementRules2Model", "closeAll", "(I)V"⟩, 116) := ⟨⟨by decide +kernel, by decide +kernel⟩, List.mem_of_getElem? (i := 1345) (by decide +kernel), List.mem_of_getElem? (i := 2049) (by decide +kernel), List.mem_of_getElem? (i := 2050) (by decide +kernel)⟩
theorem lw_p152 : lw_okq (⟨"StatementRules2Model", "isCaught", "(I)Z"⟩, 116) := ⟨⟨by decide +kernel, by decide +kernel⟩, List.mem_of_getElem? (i := 1345) (by decide +kernel), List.mem_of_getElem? (i := 2053) (by decide +kernel), List.mem_of_getElem? (i := 2054) (by decide +kernel)⟩
theorem lw_p153 : lw_okq (⟨"StatementRules2Model", "finals", "(I)Z"⟩, 116) := ⟨⟨by decide +kernel, by decide +kernel⟩, List.mem_of_getElem? (i := 1345) (by decide +kernel), List.mem_of_getElem? (i := 2057) (by decide +kernel), List.mem_of_getElem? (i := 2058) (by decide +kernel)⟩
theorem lw_p154 : lw_okq (⟨"StatementRules2Model", "compute", "(III)I"⟩, 116) := ⟨⟨by decide +kernel, by decide +kernel⟩, List.mem_of_getElem? (i := 1345) (by decide +kernel), List.mem_of_getElem? (i := 2061) (by decide +kernel), List.mem_of_getElem? (i := 2062) (by decide +kernel)⟩
theorem lw_p155 : lw_okq (⟨"StatementRules2Model", "ends", "(II)V"⟩, 116) := ⟨⟨by decide +kernel, by decide +kernel⟩, List.mem_of_getElem? (i := 1345) (by decide +kernel), List.mem_of_getElem? (i := 2065) (by decide +kernel), List.mem_of_getElem? (i := 2066) (by decide +kernel)⟩
theorem lw_p156 : lw_okq (⟨"StatementRules2Model", "record", "(IIII)I"⟩, 116) := ⟨⟨by decide +kernel, by decide +kernel⟩, List.mem_of_getElem? (i := 1345) (by decide +kernel), List.mem_of_getElem? (i := 2069) (by decide +kernel), List.mem_of_getElem? (i := 2070) (by decide +kernel)⟩
theorem lw_p157 : lw_okq (⟨"StatementRules2Model", "caseOf", "(II)I"⟩, 116) := ⟨⟨by decide +kernel, by decide +kernel⟩, List.mem_of_getElem? (i := 1345) (by decide +kernel), List.mem_of_getElem? (i := 2073) (by decide +kernel), List.mem_of_getElem? (i := 2074) (by decide +kernel)⟩
theorem lw_p158 : lw_okq (⟨"StatementRules2Model", "others", "(II)V"⟩, 116) := ⟨⟨by decide +kernel, by decide +kernel⟩, List.mem_of_getElem? (i := 1345) (by decide +kernel), List.mem_of_getElem? (i := 2077) (by decide +kernel), List.mem_of_getElem? (i := 2078) (by decide +kernel)⟩
theorem lw_p159 : lw_okq (⟨"StatementRules2Model", "goOn", "(I)V"⟩, 116) := ⟨⟨by decide +kernel, by decide +kernel⟩, List.mem_of_getElem? (i := 1345) (by decide +kernel), List.mem_of_getElem? (i := 2081) (by decide +kernel), List.mem_of_getElem? (i := 2082) (by decide +kernel)⟩
def lw_privs_10 : List (MethodName × Nat) := [(⟨"StatementRules2Model", "act", "(I)V"⟩, 116), (⟨"StatementRules2Model", "step", "()V"⟩, 116), (⟨"StatementRules2Model", "put", "(I)V"⟩, 116), (⟨"StatementRules2Model", "take", "()I"⟩, 116), (⟨"StatementRules2Model", "raise", "(II)V"⟩, 116), (⟨"StatementRules2Model", "leave", "()V"⟩, 116), (⟨"StatementRules2Model", "row", "(II)V"⟩, 116), (⟨"StatementRules2Model", "closeAll", "(I)V"⟩, 116), (⟨"StatementRules2Model", "isCaught", "(I)Z"⟩, 116), (⟨"StatementRules2Model", "finals", "(I)Z"⟩, 116), (⟨"StatementRules2Model", "compute", "(III)I"⟩, 116), (⟨"StatementRules2Model", "ends", "(II)V"⟩, 116), (⟨"StatementRules2Model", "record", "(IIII)I"⟩, 116), (⟨"StatementRules2Model", "caseOf", "(II)I"⟩, 116), (⟨"StatementRules2Model", "others", "(II)V"⟩, 116), (⟨"StatementRules2Model", "goOn", "(I)V"⟩, 116)]
theorem lw_r10 : ∀ q ∈ lw_privs_10, lw_okq q := List.forall_mem_cons.mpr ⟨lw_p144, List.forall_mem_cons.mpr ⟨lw_p145, List.forall_mem_cons.mpr ⟨lw_p146, List.forall_mem_cons.mpr ⟨lw_p147, List.forall_mem_cons.mpr ⟨lw_p148, List.forall_mem_cons.mpr ⟨lw_p149, List.forall_mem_cons.mpr ⟨lw_p150, List.forall_mem_cons.mpr ⟨lw_p151, List.forall_mem_cons.mpr ⟨lw_p152, List.forall_mem_cons.mpr ⟨lw_p153, List.forall_mem_cons.mpr ⟨lw_p154, List.forall_mem_cons.mpr ⟨lw_p155, List.forall_mem_cons.mpr ⟨lw_p156, List.forall_mem_cons.mpr ⟨lw_p157, List.forall_mem_cons.mpr ⟨lw_p158, List.forall_mem_cons.mpr ⟨lw_p159, fun _ h => absurd h List.not_mem_nil⟩⟩⟩⟩⟩⟩⟩⟩⟩⟩⟩⟩⟩⟩⟩⟩
def lw_privs : List (MethodName × Nat) := lw_privs_1 ++ (lw_privs_2 ++ (lw_privs_3 ++ (lw_privs_4 ++ (lw_privs_5 ++ (lw_privs_6 ++ (lw_privs_7 ++ (lw_privs_8 ++ (lw_privs_9 ++ (lw_privs_10)))))))))
def lw_tbl : List Cond := k2_sels lw_privs ++ tables_1
theorem lw_privs_ok : ∀ q ∈ lw_privs, lw_okq q := by
  show ∀ q ∈ lw_privs_1 ++ (lw_privs_2 ++ (lw_privs_3 ++ (lw_privs_4 ++ (lw_privs_5 ++ (lw_privs_6 ++ (lw_privs_7 ++ (lw_privs_8 ++ (lw_privs_9 ++ (lw_privs_10))))))))), lw_okq q
  exact List.forall_mem_append.mpr ⟨lw_r1, List.forall_mem_append.mpr ⟨lw_r2, List.forall_mem_append.mpr ⟨lw_r3, List.forall_mem_append.mpr ⟨lw_r4, List.forall_mem_append.mpr ⟨lw_r5, List.forall_mem_append.mpr ⟨lw_r6, List.forall_mem_append.mpr ⟨lw_r7, List.forall_mem_append.mpr ⟨lw_r8, List.forall_mem_append.mpr ⟨lw_r9, lw_r10⟩⟩⟩⟩⟩⟩⟩⟩⟩
end
section
/-! ===== BEGIN words of one list among another's, by their places ===== -/
theorem goodIn_r {big : List Cond} (ws : List Cond) (ps : List Nat) (hp : ws = ps.filterMap (fun i => big[i]?)) (h : ws.all goodWord = true) : GoodIn big ws := by
  intro w hw
  have h1 := List.all_eq_true.mp h w hw
  rw [hp] at hw
  obtain ⟨i, -, hi⟩ := List.mem_filterMap.mp hw
  have hm : w ∈ big := by first | exact List.mem_of_getElem? hi | exact List.getElem?_mem hi
  exact ⟨hm, good_of_word h1⟩
theorem goodIn_app {big a b : List Cond} (ha : GoodIn big a) (hb : GoodIn big b) : GoodIn big (a ++ b) := fun w h => (List.mem_append.mp h).elim (ha w) (hb w)
theorem goodIn_ca {big a b : List Cond} {c : Cond} (ha : GoodIn big (c :: a)) (hb : GoodIn big b) : GoodIn big (c :: (a ++ b)) := fun w h => (List.mem_cons.mp h).elim (fun e => ha w (List.mem_cons.mpr (Or.inl e))) (fun h => (List.mem_append.mp h).elim (fun h => ha w (List.mem_cons.mpr (Or.inr h))) (hb w))
theorem goodIn_sub {big ws : List Cond} (hm : ∀ w ∈ ws, w ∈ big) (h : ws.all goodWord = true) : GoodIn big ws := fun w hw => ⟨hm w hw, good_of_word (List.all_eq_true.mp h w hw)⟩
/-! ===== END ===== -/

/-! ===== BEGIN exceptions that leave a method, and their catching by the caller (launches without stack traces) ===== -/
section VXA
/-! The laws vx_back, vx_callV, vx_callS, vx_callSW, vx_throw0, vx_throwS follow proofs of the library, with one case more: JvmDerived/Free/Laws.lean (Back.of_free), Shelf42/LK1.lean (callV, callS), Shelf/KitTraced.lean (throwNew0V, throwNewS). -/
/-- where a method has thrown q: the class by its name, the cell, what was written, the world -/
def vx_T (XC : String → State → State → Prop) (st : State) (q : Addr) (t : State) (mc ms : Nat) (free : Addr → Prop) : Prop :=
  ∃ (E : String) (ce : Cell) (L : List Loc), XC E st t ∧ t.heap[q]? = some ce ∧ ce.vm = .none ∧ st.vm.findClass E = some ce.cls ∧ st.WarmedH t.vm ∧ st.sameButNew ({ t with vm := st.vm } : State) L mc ms ∧ ∀ z ∈ L, free z.base
def vx_Q (Qc : Array Value → State → Outcome → State → Prop) (XC : String → State → State → Prop) (mc ms : Nat) (free : Addr → Prop) : Array Value → State → Outcome → State → Prop := fun a st o t =>
  (Qc a st o t ∧ ∃ L, FrameEnd st o t L mc ms ∧ ∀ q ∈ L, free q.base) ∨ ∃ q, o = .threw q ∧ vx_T XC st q t mc ms free
/-- a callee that returns or throws -/
def vx_Met (l : Launch) (y : MethodName) (ws : List Cond) (rm : Room) (Pc : Array Value → State → Prop) (Qc : Array Value → State → Outcome → State → Prop) (XC : String → State → State → Prop) (mc ms : Nat) (free : Addr → Prop) : Prop :=
  MetFree l y (headSpec ws rm) Pc (fun _ _ _ _ _ => True) (vx_Q Qc XC mc ms free)
def vx_Post (XC : String → State → State → Prop) (mc ms : Nat) (free : Addr → Prop) : Pt → Array Value → Addr → Pt → Prop := fun A a q B =>
  ∃ (g : JFrame) (mk : MethodId) (t : State) (L : List Loc) (E : String) (ce : Cell), B.U.heap = t.heap ∧ B.U.vm = t.vm ∧ XC E (A.U.calling g mk a) t ∧ t.heap[q]? = some ce ∧ ce.vm = .none ∧ A.U.vm.findClass E = some ce.cls ∧ B.locs = A.locs ++ L ∧ (∀ z ∈ L, free z.base) ∧ B.cells = A.cells + mc ∧ B.slots = A.slots + ms
def vx_Back (l : Launch) (R : Room) (p : Program) (e : Env) (below : List Frame) (s : State) (sargs : Array Value) (y : MethodName) (len W9 : Nat)
    (Pre : Pt → Array Value → Prop) (Post : Pt → Array Value → Option Value → Pt → Prop) (PostX : Pt → Array Value → Addr → Pt → Prop) : Prop :=
  ∀ (m : MethodId) (meth : Method) (c : Code) (A : Pt) (g : JFrame) (ig : Instr) (mk : MethodId) (a : Array Value),
    Stand p l e R s m sargs below meth c A.U A.locs A.cells A.slots → g.method = m → g.locals.size = c.maxLocals → decode c.code g.pc = .ok (ig, len) →
    2 * g.monitorRoom + (g.stack.map fun v => v.category).sum ≤ W9 → A.U.methodNamed? y = some mk → Pre A a →
    (∃ (v : Option Value) (B : Pt), Stand p l e R s m sargs below meth c B.U B.locs B.cells B.slots ∧ Post A a v B ∧
      Steps p.tables e below (doInvoke e (A.U.setTop g) [] mk a).1 (B.U.setTop { g with pc := g.pc + len, stack := v.toList ++ g.stack })) ∨
    (∃ (q : Addr) (B : Pt), Stand p l e R s m sargs below meth c B.U B.locs B.cells B.slots ∧ PostX A a q B ∧
      Steps p.tables e below (doInvoke e (A.U.setTop g) [] mk a).1 ((B.U.setTop g).pushFrame (.throwing q)))
section Payer
variable {l : Launch} {R : Room} {p : Program} {e : Env} {below : List Frame} {s : State} {sargs : Array Value} {y : MethodName} {len W9 : Nat}
theorem vx_back {ws : List Cond} {rm : Room} {Pc : Array Value → State → Prop} {Qc : Array Value → State → Outcome → State → Prop} {XC : String → State → State → Prop} {mc ms : Nat} {free : Addr → Prop} {bytes : ByteArray} {maxL : Nat} {ret : Option FieldType}
    (hM : vx_Met l y ws rm Pc Qc XC mc ms free) (hblind : FrameBlind Pc) (hrc : rm.cells = mc) (hrs : rm.slots = ms)
    (hframes : rm.frames + 1 ≤ R.frames) (hlocals : W9 + (maxL + 11) + rm.locals ≤ R.locals)
    (hws : ∀ w ∈ ws, ∀ a' U, s.WarmedH U.vm → w.before a' U = true) (hcode : Cond.code y bytes maxL ret ∈ ws) (hinit : ∀ a' U, s.WarmedH U.vm → (Cond.initialized y.cls).before a' U = true) :
    vx_Back l R p e below s sargs y len W9 (PreOf R mc ms Pc) (PostOf Qc mc ms free) (vx_Post XC mc ms free) := by
  intro m meth c A g ig mk a X hg hsize hdg hW hn hp
  have h1 : (headSpec ws rm).pre.before a A.U = true := atoms_intro fun w hw => hws w hw _ _ X.warmed
  have h2 : (Cond.code y bytes maxL ret).before a A.U = true := hws _ hcode _ _ X.warmed
  have h3 : (Cond.initialized y.cls).before a A.U = true := hinit _ _ X.warmed
  have h4 : A.cells + (headSpec ws rm).room.cells ≤ R.cells := by rw [show (headSpec ws rm).room.cells = mc from hrc]; exact hp.1
  have h5 : A.slots + (headSpec ws rm).room.slots ≤ R.slots := by rw [show (headSpec ws rm).room.slots = ms from hrs]; exact hp.2.1
  have hPc : Pc a (A.U.calling g mk a) := hblind _ _ _ _ hp.2.2
  obtain ⟨U, Ls, c0, s0⟩ := A
  dsimp only [Pt.U, Pt.locs, Pt.cells, Pt.slots] at h1 h2 h3 h4 h5 X hn hPc ⊢
  obtain ⟨methY, cY, hmY, hcY, -, hlY, -, -, -, -⟩ := Cond.code_spec hn h2
  obtain ⟨kY, hkY, -⟩ := className_of_methodNamed hn
  have hinitY : kY.init = .initialized := Cond.initialized_spec (findClass_of_methodNamed hn) hkY h3
  have h : At U g.method c below := by rw [hg]; exact X.here
  have hlocals9 : W9 + (maxL + 11) + (headSpec ws rm).room.locals ≤ R.locals := hlocals
  have happ : (headSpec ws rm).appliesLoose y e.platform (U.calling g mk a) = true :=
    Spec.appliesLoose_calling (g := g) h hdg hn hkY hinitY
      (X.room_calling (g := g) (R' := (headSpec ws rm).room) hsize hmY hcY hframes (by rw [hlY]; omega) h4 h5) h1
  obtain ⟨mid, hmid⟩ := h.above
  have hfr : (U.setTop g).frames = (.java g :: mid) ++ below := by rw [State.frames_setTop' g h.top, hmid]; rfl
  obtain ⟨o, s₂, hsteps, -, hend, hq⟩ := Steps.callFree hM p X.admits X.cas X.clock (acts := []) hfr happ hPc trivial
  have hq' : vx_Q Qc XC mc ms free a (U.calling g mk a) o s₂ := hq
  rw [State.frames_setTop' g h.top] at hend
  obtain ⟨g₀, hg0⟩ := Option.isSome_iff_exists.mp h.top
  obtain ⟨r, hr⟩ := State.topJava?_eq_some.mp hg0
  have hr' : (({ U with heap := s₂.heap, slotsUsed := s₂.slotsUsed } : State).setVm s₂.vm).frames = .java g₀ :: r := hr
  rcases hq' with ⟨hqc, L, hfe, hL⟩ | ⟨q, rfl, E, ce, L, hx, hce, hcv, hcl, hW₂, hsm, hL⟩
  · obtain ⟨⟨v, rfl⟩, hW₂, e2, q2, q3, q4, q5, q6⟩ := id hfe
    have e3 : s₂ = ({ (U.calling g mk a).setFrames s₂.frames with heap := s₂.heap, slotsUsed := s₂.slotsUsed } : State).setVm s₂.vm := by
      have : s₂ = ({ s₂ with vm := (U.calling g mk a).vm } : State).setVm s₂.vm := rfl
      rw [e2] at this
      exact this
    obtain ⟨c₂, i₂, len₂, hc₂, hd₂, hf₂⟩ := hend
    have hW' : U.WarmedH s₂.vm := hW₂
    have hcc : c₂ = c := by
      have h1 : s₂.code? g.method = U.code? g.method := by
        rw [State.code?_eq, State.code?_eq, hW'.alike.method?]
      exact Option.some.inj (hc₂.symm.trans (h1.trans h.code))
    subst hcc
    have hlen : len₂ = len := by rw [hdg] at hd₂; cases hd₂; rfl
    subst hlen
    have hs₂ : s₂ = (({ U with heap := s₂.heap, slotsUsed := s₂.slotsUsed } : State).setVm s₂.vm).setTop { g with pc := g.pc + len₂, stack := v.toList ++ g.stack } := by
      refine e3.trans ?_
      rw [hf₂, State.calling_eq h.top, State.setFrames_setFrames, State.setTop_of_frames _ hr', hr]
      rfl
    have hsame : U.sameButNew ({ U with heap := s₂.heap, slotsUsed := s₂.slotsUsed } : State) L mc ms := by
      refine ⟨?_, q2, q3, q4, q5, q6⟩
      obtain ⟨t, ht, -⟩ := State.frames_cons hr
      show ({ U with heap := s₂.heap, slotsUsed := s₂.slotsUsed } : State) = { U.setFrames U.frames with heap := s₂.heap, slotsUsed := s₂.slotsUsed }
      rw [State.setFrames_self ht]
    subst hg
    refine Or.inl ⟨v, ⟨(({ U with heap := s₂.heap, slotsUsed := s₂.slotsUsed } : State).setVm s₂.vm), Ls ++ L, c0 + mc, s0 + ms⟩,
      ⟨X.admits, X.cas, X.clock, X.frames, X.room, X.hears, X.method, X.code, (X.here.setHeapUsed s₂.heap s₂.slotsUsed).setVm hW'.alike, X.tail, State.WarmedH.trans X.warmed hW', X.limits, X.bytes, X.same.trans (hsame.setVm s.vm)⟩,
      ⟨g, mk, s₂, L, rfl, rfl, hqc, rfl, hL, rfl, rfl⟩, ?_⟩
    show Steps p.tables e below _ ((({ U with heap := s₂.heap, slotsUsed := s₂.slotsUsed } : State).setVm s₂.vm).setTop { g with pc := g.pc + len₂, stack := v.toList ++ g.stack })
    rw [← hs₂]
    exact hsteps
  · obtain ⟨e2, q2, q3, q4, q5, q6⟩ := id hsm
    have e3 : s₂ = ({ (U.calling g mk a).setFrames s₂.frames with heap := s₂.heap, slotsUsed := s₂.slotsUsed } : State).setVm s₂.vm := by
      have : s₂ = ({ s₂ with vm := (U.calling g mk a).vm } : State).setVm s₂.vm := rfl
      rw [e2] at this
      exact this
    have hf₂ : s₂.frames = .throwing q :: .java g :: U.frames.tail := hend
    have hW' : U.WarmedH s₂.vm := hW₂
    have hs₂ : s₂ = ((({ U with heap := s₂.heap, slotsUsed := s₂.slotsUsed } : State).setVm s₂.vm).setTop g).pushFrame (.throwing q) := by
      refine e3.trans ?_
      rw [hf₂, State.calling_eq h.top, State.setFrames_setFrames, State.pushFrame, State.frames_setTop _ hr', State.setTop_of_frames _ hr', State.setFrames_setFrames, hr]
      rfl
    have hsame : U.sameButNew ({ U with heap := s₂.heap, slotsUsed := s₂.slotsUsed } : State) L mc ms := by
      refine ⟨?_, q2, q3, q4, q5, q6⟩
      obtain ⟨t, ht, -⟩ := State.frames_cons hr
      show ({ U with heap := s₂.heap, slotsUsed := s₂.slotsUsed } : State) = { U.setFrames U.frames with heap := s₂.heap, slotsUsed := s₂.slotsUsed }
      rw [State.setFrames_self ht]
    subst hg
    refine Or.inr ⟨q, ⟨(({ U with heap := s₂.heap, slotsUsed := s₂.slotsUsed } : State).setVm s₂.vm), Ls ++ L, c0 + mc, s0 + ms⟩,
      ⟨X.admits, X.cas, X.clock, X.frames, X.room, X.hears, X.method, X.code, (X.here.setHeapUsed s₂.heap s₂.slotsUsed).setVm hW'.alike, X.tail, State.WarmedH.trans X.warmed hW', X.limits, X.bytes, X.same.trans (hsame.setVm s.vm)⟩,
      ⟨g, mk, s₂, L, E, ce, rfl, rfl, hx, hce, hcv, hcl, rfl, hL, rfl, rfl⟩, ?_⟩
    show Steps p.tables e below _ (((({ U with heap := s₂.heap, slotsUsed := s₂.slotsUsed } : State).setVm s₂.vm).setTop g).pushFrame (.throwing q))
    rw [← hs₂]
    exact hsteps
end Payer
section Calls
variable {p : Program} {l : Launch} {e : Env} {R : Room} {s : State} {m : MethodId} {args : Array Value} {below : List Frame} {meth : Method} {c : Code} {T : State} {locs : List Loc} {cells slots : Nat}
theorem vx_callV (X : Stand p l e R s m args below meth c T locs cells slots) (hexec : p.tables.exec = Jvm.exec) {own C : String} {index : Nat} {y : MethodName} {bytes : ByteArray} {maxL : Nat} {ret : Option FieldType}
    (hown : s.vm.findClass own = some m.cls) (hlink : (Cond.methodLink own index y).before args s = true) (hinst : (Cond.instanceMethod y).before args s = true) (hsel : (Cond.selects C y y).before args s = true)
    (hcode : (Cond.code y bytes maxL ret).before args s = true) (hy : y.cls ≠ "java/lang/invoke/MethodHandle" ∧ y.cls ≠ "java/lang/invoke/VarHandle")
    {W9 : Nat} {Pre : Pt → Array Value → Prop} {Post : Pt → Array Value → Option Value → Pt → Prop} {PostX : Pt → Array Value → Addr → Pt → Prop} (hK : vx_Back l R p e below s args y 3 W9 Pre Post PostX)
    {b : Addr} {cellB : Cell} (hcell : T.heap[b]? = some cellB) (hobj : cellB.vm.isStatics = false) (hcls : s.vm.findClass C = some cellB.cls)
    {g : JFrame} (hg : g.method = m) (hsize : g.locals.size = c.maxLocals) {argsL rest : List Value} (hlen : ∀ sig, parseMethodDescriptor y.desc = some sig → argsL.length = sig.parameters.length)
    (hstack : g.stack = argsL.reverse ++ .ref b :: rest) (hW : 2 * g.monitorRoom + (rest.map fun v => v.category).sum ≤ W9) (hdg : decode c.code g.pc = .ok (.invokevirtual index, 3))
    (hpre : ∀ vm₁, s.WarmedH vm₁ → Pre ⟨T.setVm vm₁, locs, cells, slots⟩ (Value.ref b :: argsL).toArray) :
    (∃ (v : Option Value) (vm₁ : Vm) (B : Pt), s.WarmedH vm₁ ∧ Stand p l e R s m args below meth c B.U B.locs B.cells B.slots ∧ Post ⟨T.setVm vm₁, locs, cells, slots⟩ (Value.ref b :: argsL).toArray v B ∧
      ∀ target, Steps p.tables e below (B.U.setTop { g with pc := g.pc + 3, stack := v.toList ++ rest }) target → Steps p.tables e below (T.setTop g) target) ∨
    (∃ (q : Addr) (vm₁ : Vm) (B : Pt), s.WarmedH vm₁ ∧ Stand p l e R s m args below meth c B.U B.locs B.cells B.slots ∧ PostX ⟨T.setVm vm₁, locs, cells, slots⟩ (Value.ref b :: argsL).toArray q B ∧
      Steps p.tables e below (T.setTop g) ((B.U.setTop { g with stack := rest }).pushFrame (.throwing q))) := by
  obtain ⟨mk, methM, hnamed, hmethM, hstM, habM⟩ := Cond.instanceMethod_spec hinst
  obtain ⟨methM', cM, hmethM', -, -, -, -, -, -, hsigM⟩ := Cond.code_spec hnamed hcode
  cases hmethM.symm.trans hmethM'
  obtain ⟨c2, r2, m2, q1, q2, q3, q4, kP, hkP, hkPi⟩ := Cond.selects_spec hsel
  cases hcls.symm.trans q1
  cases (State.methodFound?_of_named hnamed hy).symm.trans q2
  cases hnamed.symm.trans q3
  have hselP : selectMethod e.platform s.vm cellB.cls mk = .method mk := by rw [Launch.admits_selectMethod X.admits]; exact q4
  obtain ⟨vm₁, X₁, hstep₁⟩ := X.invokevirtual hexec hown hlink hnamed hmethM hstM hkP hkPi hy (a := b) (cell := cellB) hcell
    (fun z h => by rw [h] at hobj; cases hobj) hselP hmethM habM hkP hkPi (g := g) hg (argsL := argsL) (rest := rest) (hlen _ hsigM) hstack hdg
  rcases hK m meth c ⟨T.setVm vm₁, locs, cells, slots⟩ { g with stack := rest } (.invokevirtual index) mk (Value.ref b :: argsL).toArray X₁ hg hsize hdg hW (X₁.named hnamed) (hpre vm₁ X₁.warmed) with ⟨v, B, X', hpost, hsteps⟩ | ⟨q, B, X', hpost, hsteps⟩
  · exact Or.inl ⟨v, vm₁, B, X₁.warmed, X', hpost, fun target h => hstep₁ _ fun acts => by rw [doInvoke_state]; exact hsteps.trans h⟩
  · exact Or.inr ⟨q, vm₁, B, X₁.warmed, X', hpost, hstep₁ _ fun acts => by rw [doInvoke_state]; exact hsteps⟩
theorem vx_callS (X : Stand p l e R s m args below meth c T locs cells slots) (hexec : p.tables.exec = Jvm.exec) {own : String} {index : Nat} {y : MethodName} {bytes : ByteArray} {maxL : Nat} {ret : Option FieldType}
    (hown : s.vm.findClass own = some m.cls) (hlink : (Cond.methodLink own index y).before args s = true) (hstat : (Cond.static y).before args s = true) (hinit : (Cond.initialized y.cls).before args s = true)
    (hcode : (Cond.code y bytes maxL ret).before args s = true) (hy : y.cls ≠ "java/lang/invoke/MethodHandle" ∧ y.cls ≠ "java/lang/invoke/VarHandle")
    {W9 : Nat} {Pre : Pt → Array Value → Prop} {Post : Pt → Array Value → Option Value → Pt → Prop} {PostX : Pt → Array Value → Addr → Pt → Prop} (hK : vx_Back l R p e below s args y 3 W9 Pre Post PostX)
    {g : JFrame} (hg : g.method = m) (hsize : g.locals.size = c.maxLocals) {argsL rest : List Value} (hlen : ∀ sig, parseMethodDescriptor y.desc = some sig → argsL.length = sig.parameters.length)
    (hstack : g.stack = argsL.reverse ++ rest) (hW : 2 * g.monitorRoom + (rest.map fun v => v.category).sum ≤ W9) (hdg : decode c.code g.pc = .ok (.invokestatic index, 3))
    (hpre : ∀ vm₁, s.WarmedH vm₁ → Pre ⟨T.setVm vm₁, locs, cells, slots⟩ argsL.toArray) :
    (∃ (v : Option Value) (vm₁ : Vm) (B : Pt), s.WarmedH vm₁ ∧ Stand p l e R s m args below meth c B.U B.locs B.cells B.slots ∧ Post ⟨T.setVm vm₁, locs, cells, slots⟩ argsL.toArray v B ∧
      ∀ target, Steps p.tables e below (B.U.setTop { g with pc := g.pc + 3, stack := v.toList ++ rest }) target → Steps p.tables e below (T.setTop g) target) ∨
    (∃ (q : Addr) (vm₁ : Vm) (B : Pt), s.WarmedH vm₁ ∧ Stand p l e R s m args below meth c B.U B.locs B.cells B.slots ∧ PostX ⟨T.setVm vm₁, locs, cells, slots⟩ argsL.toArray q B ∧
      Steps p.tables e below (T.setTop g) ((B.U.setTop { g with stack := rest }).pushFrame (.throwing q))) := by
  obtain ⟨mk, hnamed⟩ := Cond.code_named hcode
  obtain ⟨methM, cM, hmethM, -, -, -, -, -, -, hsigM⟩ := Cond.code_spec hnamed hcode
  have hstatic : methM.isStatic = true := Cond.static_spec hnamed hmethM hstat
  obtain ⟨kP, hkP, -⟩ := className_of_methodNamed hnamed
  have hinitP : kP.init = .initialized := Cond.initialized_spec (findClass_of_methodNamed hnamed) hkP hinit
  obtain ⟨vm₁, X₁, hstep₁⟩ := X.invokestatic hexec hown hlink hnamed hmethM hstatic hkP hinitP hy (g := g) hg (argsL := argsL) (rest := rest) (hlen _ hsigM) hstack hdg
  rcases hK m meth c ⟨T.setVm vm₁, locs, cells, slots⟩ { g with stack := rest } (.invokestatic index) mk argsL.toArray X₁ hg hsize hdg hW (X₁.named hnamed) (hpre vm₁ X₁.warmed) with ⟨v, B, X', hpost, hsteps⟩ | ⟨q, B, X', hpost, hsteps⟩
  · exact Or.inl ⟨v, vm₁, B, X₁.warmed, X', hpost, fun target h => hstep₁ _ fun acts => by rw [doInvoke_state]; exact hsteps.trans h⟩
  · exact Or.inr ⟨q, vm₁, B, X₁.warmed, X', hpost, hstep₁ _ fun acts => by rw [doInvoke_state]; exact hsteps⟩
end Calls
theorem vx_cls {s : State} {T : State} {vm₁ : Vm} {E : String} {k : ClassId} (hW : s.WarmedH vm₁) (h : (T.setVm vm₁).vm.findClass E = some k) : s.vm.findClass E = some k := by
  have h1 : vm₁.findClass E = some k := h
  rw [hW.alike.findClass] at h1
  exact h1
/-- the method's frame g, with q thrown over it -/
def vx_W (p : Program) (l : Launch) (e : Env) (R : Room) (s : State) (m : MethodId) (args : Array Value) (below : List Frame) (meth : Method) (c : Code) (H : Heap) (locs : List Loc) (cells slots : Nat) (Q : State → Prop) (g : JFrame) (q : Addr) : Prop :=
  ∀ T : State, T.heap = H → Stand p l e R s m args below meth c T locs cells slots → ∃ t, Steps p.tables e below ((T.setTop g).pushFrame (.throwing q)) t ∧ Q t
def vx_Run (p : Program) (l : Launch) (e : Env) (R : Room) (s : State) (m : MethodId) (args : Array Value) (below : List Frame) (meth : Method) (c : Code) (H : Heap) (locs : List Loc) (cells slots mc ms : Nat) (g : JFrame) (rest : List Value) (Qa : State → Outcome → State → Prop) (XC : String → State → State → Prop) (free : Addr → Prop) : Prop :=
  ∀ T : State, T.heap = H → Stand p l e R s m args below meth c T locs cells slots →
    (∃ (v : Option Value) (st₀ t T' : State) (L : List Loc), st₀.heap = H ∧ Stand p l e R s m args below meth c T' (locs ++ L) (cells + mc) (slots + ms) ∧ (∀ q ∈ L, free q.base) ∧ T'.heap = t.heap ∧ T'.vm = t.vm ∧ Qa st₀ (.returned v) t ∧
      Goes p e below T g T' { g with pc := g.pc + 3, stack := v.toList ++ rest }) ∨
    (∃ (q : Addr) (st₀ t T' : State) (L : List Loc) (E : String) (ce : Cell), st₀.heap = H ∧ Stand p l e R s m args below meth c T' (locs ++ L) (cells + mc) (slots + ms) ∧ (∀ z ∈ L, free z.base) ∧ T'.heap = t.heap ∧ T'.vm = t.vm ∧ XC E st₀ t ∧ t.heap[q]? = some ce ∧ ce.vm = .none ∧ s.vm.findClass E = some ce.cls ∧
      Steps p.tables e below (T.setTop g) ((T'.setTop { g with stack := rest }).pushFrame (.throwing q)))
def vx_X {S : Type} (px : S → Prop) (B : String → S → State → Prop) (A : Nat → Prop) : String → State → State → Prop := fun E st t => ∃ u : S, px u ∧ B E u t ∧ va_F A st t
section Runs
variable {p : Program} {l : Launch} {e : Env} {R : Room} {s : State} {m : MethodId} {args : Array Value} {below : List Frame} {meth : Method} {c : Code} {H : Heap} {locs : List Loc} {cells slots : Nat}
variable {y : MethodName} {bytes cc : ByteArray} {maxL nL mc ms n index : Nat} {ret : Option FieldType} {ws : List Cond} {rm : Room} {Pc : Array Value → State → Prop} {Qc : Array Value → State → Outcome → State → Prop} {XC : String → State → State → Prop} {free : Addr → Prop} {Ts : List Cond} {own C : String} {b : Addr} {As rest : List Value} {g : JFrame}
theorem vx_callBack (cb : CallB R s args own index y bytes maxL ret ws rm mc ms n) (hM : vx_Met l y ws rm Pc Qc XC mc ms free) (hbl : FrameBlind Pc) : vx_Back l R p e below s args y 3 8 (PreOf R mc ms Pc) (PostOf Qc mc ms free) (vx_Post XC mc ms free) := by
  obtain ⟨hrc, hrs, hfr, hlo, hws, hcw, -, hini, -⟩ := cb
  exact vx_back (bytes := bytes) (maxL := maxL) (ret := ret) hM hbl hrc hrs hfr hlo hws hcw (fun a' U hW => word_at hW (Or.inl (by first | rfl | simp [Cond.onTables, Cond.keeps, Cond.steady])) hini)
theorem vx_runV (S : CallFix p m c cc nL s args Ts own) (hM : vx_Met l y ws rm Pc Qc XC mc ms free) (cw : CallW R s args own C index y bytes maxL ret ws rm mc ms n) (hp : PreV s H C b Pc As)
    (hg : g.method = m) (hn : As.length = n) (hsize : g.locals.size = nL) (hstack : g.stack = As.reverse ++ .ref b :: rest) (hW : 2 * g.monitorRoom + (rest.map fun v => v.category).sum ≤ 8) (hdg : decode cc g.pc = .ok (.invokevirtual index, 3)) (hf : cells + mc ≤ R.cells ∧ slots + ms ≤ R.slots) :
    vx_Run p l e R s m args below meth c H locs cells slots mc ms g rest (Qc (Value.ref b :: As).toArray) XC free := by
  have hK : vx_Back l R p e below s args y 3 8 (PreOf R mc ms Pc) (PostOf Qc mc ms free) (vx_Post XC mc ms free) := vx_callBack cw.1 hM hp.1
  obtain ⟨⟨-, -, -, -, -, -, hcode, -, hy, hlen, hl⟩, hin, hse⟩ := cw
  obtain ⟨hx, hb, hml, ho, -⟩ := S
  obtain ⟨-, ⟨cellB, hcB, hoB, hclB⟩, hPc⟩ := hp
  intro T hT X
  rcases vx_callV X hx (C := C) (bytes := bytes) (maxL := maxL) (ret := ret) ho hl hin hse hcode hy hK (by rw [hT]; exact hcB) hoB hclB hg (hsize.trans hml.symm) (argsL := As) (rest := rest) (fun sig h => hn.trans (hlen sig h)) hstack hW (by rw [hb]; exact hdg)
    (fun vm₁ hW₁ => ⟨hf.1, hf.2, hPc (T.setVm vm₁) hT hW₁⟩) with ⟨v, vm₁, ⟨U', l2, c2, s2⟩, hW₁, X', ⟨g', mk, t, L, e1, e2, hq, h1, hL, h2, h3⟩, st⟩ | ⟨q, vm₁, ⟨U', l2, c2, s2⟩, hW₁, X', ⟨g', mk, t, L, E, ce, e1, e2, hq, hce, hcv, hcl, h1, hL, h2, h3⟩, st⟩
  · dsimp only [Pt.U, Pt.locs, Pt.cells, Pt.slots] at X' e1 e2 h1 h2 h3 st
    subst h1; subst h2; subst h3
    exact Or.inl ⟨v, (T.setVm vm₁).calling g' mk (Value.ref b :: As).toArray, t, U', L, hT, X', hL, e1, e2, hq, st⟩
  · dsimp only [Pt.U, Pt.locs, Pt.cells, Pt.slots] at X' e1 e2 h1 h2 h3 st hcl
    subst h1; subst h2; subst h3
    exact Or.inr ⟨q, (T.setVm vm₁).calling g' mk (Value.ref b :: As).toArray, t, U', L, E, ce, hT, X', hL, e1, e2, hq, hce, hcv, vx_cls hW₁ hcl, st⟩
theorem vx_runS (S : CallFix p m c cc nL s args Ts own) (hM : vx_Met l y ws rm Pc Qc XC mc ms free) (cw : CallB R s args own index y bytes maxL ret ws rm mc ms n ∧ (Cond.static y).before args s = true) (hp : PreS s H Pc As)
    (hg : g.method = m) (hn : As.length = n) (hsize : g.locals.size = nL) (hstack : g.stack = As.reverse ++ rest) (hW : 2 * g.monitorRoom + (rest.map fun v => v.category).sum ≤ 8) (hdg : decode cc g.pc = .ok (.invokestatic index, 3)) (hf : cells + mc ≤ R.cells ∧ slots + ms ≤ R.slots) :
    vx_Run p l e R s m args below meth c H locs cells slots mc ms g rest (Qc As.toArray) XC free := by
  have hK : vx_Back l R p e below s args y 3 8 (PreOf R mc ms Pc) (PostOf Qc mc ms free) (vx_Post XC mc ms free) := vx_callBack cw.1 hM hp.1
  obtain ⟨⟨-, -, -, -, -, -, hcode, hini, hy, hlen, hl⟩, hstt⟩ := cw
  obtain ⟨hx, hb, hml, ho, -⟩ := S
  intro T hT X
  rcases vx_callS X hx (bytes := bytes) (maxL := maxL) (ret := ret) ho hl hstt hini hcode hy hK hg (hsize.trans hml.symm) (argsL := As) (rest := rest) (fun sig h => hn.trans (hlen sig h)) hstack hW (by rw [hb]; exact hdg)
    (fun vm₁ hW₁ => ⟨hf.1, hf.2, hp.2 (T.setVm vm₁) hT hW₁⟩) with ⟨v, vm₁, ⟨U', l2, c2, s2⟩, hW₁, X', ⟨g', mk, t, L, e1, e2, hq, h1, hL, h2, h3⟩, st⟩ | ⟨q, vm₁, ⟨U', l2, c2, s2⟩, hW₁, X', ⟨g', mk, t, L, E, ce, e1, e2, hq, hce, hcv, hcl, h1, hL, h2, h3⟩, st⟩
  · dsimp only [Pt.U, Pt.locs, Pt.cells, Pt.slots] at X' e1 e2 h1 h2 h3 st
    subst h1; subst h2; subst h3
    exact Or.inl ⟨v, (T.setVm vm₁).calling g' mk As.toArray, t, U', L, hT, X', hL, e1, e2, hq, st⟩
  · dsimp only [Pt.U, Pt.locs, Pt.cells, Pt.slots] at X' e1 e2 h1 h2 h3 st hcl
    subst h1; subst h2; subst h3
    exact Or.inr ⟨q, (T.setVm vm₁).calling g' mk As.toArray, t, U', L, E, ce, hT, X', hL, e1, e2, hq, hce, hcv, vx_cls hW₁ hcl, st⟩
end Runs
section Rows
variable {p : Program} {l : Launch} {e : Env} {R : Room} {s : State} {m : MethodId} {args : Array Value} {below : List Frame} {meth : Method} {c : Code} {H : Heap} {locs : List Loc} {cells slots : Nat} {Q : State → Prop}
variable {mc ms : Nat} {free : Addr → Prop} {A0 A1 : Nat → Prop} {H0 : Heap} {a : Array Value} {pc : Nat} {ls : Array Slot} {st0 rest : List Value}
theorem vx_keep {st₀ t T' : State} {L : List Loc} (h0 : st₀.heap = H) (e1 : T'.heap = t.heap) (hS : va_S A0 H0 H locs) (hA : ∀ q, q < H.size → A1 q → A0 q) (hf : ∀ q, free q → A0 q) (hL : ∀ q ∈ L, free q.base) (hF : va_F A1 st₀ t) :
    H.size ≤ T'.heap.size ∧ (∀ q : Nat, q < H.size → ¬ A1 q → T'.heap[q]? = H[q]?) ∧ va_S A0 H0 T'.heap (locs ++ L) := by
  obtain ⟨hz, hk⟩ := hF
  rw [h0] at hz hk
  exact ⟨by rw [e1]; exact hz, fun q h1 h2 => by rw [e1]; exact hk q h1 h2,
    ⟨Nat.le_trans hS.1 (by rw [e1]; exact hz), fun q h1 h2 => by rw [e1, hk q (Nat.lt_of_lt_of_le h1 hS.1) (fun z => h2 (hA q (Nat.lt_of_lt_of_le h1 hS.1) z))]; exact hS.2.1 q h1 h2, fun q hq => by
      rcases List.mem_append.mp hq with h | h
      · exact hS.2.2 q h
      · exact hf _ (hL q h)⟩⟩
theorem vx_calli {S SX : Type} {post : Int32 → S → Prop} {px : SX → Prop} {B : S → State → Prop} {BX : String → SX → State → Prop} {AX : Nat → Prop} (hr : vx_Run p l e R s m args below meth c H locs cells slots mc ms (F0 m pc ls st0) rest (va_Qi post B A1 a) (vx_X px BX AX) free) (hS : va_S A0 H0 H locs) (hA : ∀ q, q < H.size → A1 q → A0 q) (hf : ∀ q, free q → A0 q) (hAX : ∀ q, q < H.size → AX q → A0 q)
    (kx : ∀ (E : String) (ce : Cell) (q9 : Addr) (u : SX) (t : State) (H1 : Heap) (locs1 : List Loc), t.heap = H1 → s.vm.Alike t.vm → px u → BX E u t → H.size ≤ H1.size → (∀ q : Nat, q < H.size → ¬ AX q → H1[q]? = H[q]?) → va_S A0 H0 H1 locs1 → H1[q9]? = some ce → ce.vm = .none → s.vm.findClass E = some ce.cls → vx_W p l e R s m args below meth c H1 locs1 (cells + mc) (slots + ms) Q (F0 m pc ls rest) q9)
    (kk : ∀ (r : Int32) (u : S) (t : State) (H1 : Heap) (locs1 : List Loc), t.heap = H1 → s.vm.Alike t.vm → post r u → B u t → H.size ≤ H1.size → (∀ q : Nat, q < H.size → ¬ A1 q → H1[q]? = H[q]?) → va_S A0 H0 H1 locs1 → W p l e R s m args below meth c H1 locs1 (cells + mc) (slots + ms) Q (F0 m (pc + 3) ls (.int r :: rest))) : W p l e R s m args below meth c H locs cells slots Q (F0 m pc ls st0) := by
  intro T hT X
  rcases hr T hT X with ⟨v, st₀, t, T', L, h0, X', hL, e1, e2, ⟨⟨r, u, hv, hp, hb⟩, hF⟩, st⟩ | ⟨q, st₀, t, T', L, E, ce, h0, X', hL, e1, e2, ⟨u, hp, hb, hF⟩, hce, hcv, hcl, st⟩
  · cases hv
    obtain ⟨k1, k2, k3⟩ := vx_keep h0 e1 hS hA hf hL hF
    obtain ⟨t2, a1, b1⟩ := kk r u t T'.heap (locs ++ L) e1.symm (by rw [← e2]; exact X'.warmed.alike) hp hb k1 k2 k3 T' rfl X'
    exact ⟨t2, st t2 a1, b1⟩
  · obtain ⟨k1, k2, k3⟩ := vx_keep h0 e1 hS hAX hf hL hF
    obtain ⟨t2, a1, b1⟩ := kx E ce q u t T'.heap (locs ++ L) e1.symm (by rw [← e2]; exact X'.warmed.alike) hp hb k1 k2 k3 (by rw [e1]; exact hce) hcv hcl T' rfl X'
    exact ⟨t2, st.trans a1, b1⟩
theorem vx_calll {S SX : Type} {post : Int64 → S → Prop} {px : SX → Prop} {B : S → State → Prop} {BX : String → SX → State → Prop} {AX : Nat → Prop} (hr : vx_Run p l e R s m args below meth c H locs cells slots mc ms (F0 m pc ls st0) rest (va_Ql post B A1 a) (vx_X px BX AX) free) (hS : va_S A0 H0 H locs) (hA : ∀ q, q < H.size → A1 q → A0 q) (hf : ∀ q, free q → A0 q) (hAX : ∀ q, q < H.size → AX q → A0 q)
    (kx : ∀ (E : String) (ce : Cell) (q9 : Addr) (u : SX) (t : State) (H1 : Heap) (locs1 : List Loc), t.heap = H1 → s.vm.Alike t.vm → px u → BX E u t → H.size ≤ H1.size → (∀ q : Nat, q < H.size → ¬ AX q → H1[q]? = H[q]?) → va_S A0 H0 H1 locs1 → H1[q9]? = some ce → ce.vm = .none → s.vm.findClass E = some ce.cls → vx_W p l e R s m args below meth c H1 locs1 (cells + mc) (slots + ms) Q (F0 m pc ls rest) q9)
    (kk : ∀ (r : Int64) (u : S) (t : State) (H1 : Heap) (locs1 : List Loc), t.heap = H1 → s.vm.Alike t.vm → post r u → B u t → H.size ≤ H1.size → (∀ q : Nat, q < H.size → ¬ A1 q → H1[q]? = H[q]?) → va_S A0 H0 H1 locs1 → W p l e R s m args below meth c H1 locs1 (cells + mc) (slots + ms) Q (F0 m (pc + 3) ls (.long r :: rest))) : W p l e R s m args below meth c H locs cells slots Q (F0 m pc ls st0) := by
  intro T hT X
  rcases hr T hT X with ⟨v, st₀, t, T', L, h0, X', hL, e1, e2, ⟨⟨r, u, hv, hp, hb⟩, hF⟩, st⟩ | ⟨q, st₀, t, T', L, E, ce, h0, X', hL, e1, e2, ⟨u, hp, hb, hF⟩, hce, hcv, hcl, st⟩
  · cases hv
    obtain ⟨k1, k2, k3⟩ := vx_keep h0 e1 hS hA hf hL hF
    obtain ⟨t2, a1, b1⟩ := kk r u t T'.heap (locs ++ L) e1.symm (by rw [← e2]; exact X'.warmed.alike) hp hb k1 k2 k3 T' rfl X'
    exact ⟨t2, st t2 a1, b1⟩
  · obtain ⟨k1, k2, k3⟩ := vx_keep h0 e1 hS hAX hf hL hF
    obtain ⟨t2, a1, b1⟩ := kx E ce q u t T'.heap (locs ++ L) e1.symm (by rw [← e2]; exact X'.warmed.alike) hp hb k1 k2 k3 (by rw [e1]; exact hce) hcv hcl T' rfl X'
    exact ⟨t2, st.trans a1, b1⟩
theorem vx_callf {S SX : Type} {post : UInt32 → S → Prop} {px : SX → Prop} {B : S → State → Prop} {BX : String → SX → State → Prop} {AX : Nat → Prop} (hr : vx_Run p l e R s m args below meth c H locs cells slots mc ms (F0 m pc ls st0) rest (va_Qf post B A1 a) (vx_X px BX AX) free) (hS : va_S A0 H0 H locs) (hA : ∀ q, q < H.size → A1 q → A0 q) (hf : ∀ q, free q → A0 q) (hAX : ∀ q, q < H.size → AX q → A0 q)
    (kx : ∀ (E : String) (ce : Cell) (q9 : Addr) (u : SX) (t : State) (H1 : Heap) (locs1 : List Loc), t.heap = H1 → s.vm.Alike t.vm → px u → BX E u t → H.size ≤ H1.size → (∀ q : Nat, q < H.size → ¬ AX q → H1[q]? = H[q]?) → va_S A0 H0 H1 locs1 → H1[q9]? = some ce → ce.vm = .none → s.vm.findClass E = some ce.cls → vx_W p l e R s m args below meth c H1 locs1 (cells + mc) (slots + ms) Q (F0 m pc ls rest) q9)
    (kk : ∀ (r : UInt32) (u : S) (t : State) (H1 : Heap) (locs1 : List Loc), t.heap = H1 → s.vm.Alike t.vm → post r u → B u t → H.size ≤ H1.size → (∀ q : Nat, q < H.size → ¬ A1 q → H1[q]? = H[q]?) → va_S A0 H0 H1 locs1 → W p l e R s m args below meth c H1 locs1 (cells + mc) (slots + ms) Q (F0 m (pc + 3) ls (.float r :: rest))) : W p l e R s m args below meth c H locs cells slots Q (F0 m pc ls st0) := by
  intro T hT X
  rcases hr T hT X with ⟨v, st₀, t, T', L, h0, X', hL, e1, e2, ⟨⟨r, u, hv, hp, hb⟩, hF⟩, st⟩ | ⟨q, st₀, t, T', L, E, ce, h0, X', hL, e1, e2, ⟨u, hp, hb, hF⟩, hce, hcv, hcl, st⟩
  · cases hv
    obtain ⟨k1, k2, k3⟩ := vx_keep h0 e1 hS hA hf hL hF
    obtain ⟨t2, a1, b1⟩ := kk r u t T'.heap (locs ++ L) e1.symm (by rw [← e2]; exact X'.warmed.alike) hp hb k1 k2 k3 T' rfl X'
    exact ⟨t2, st t2 a1, b1⟩
  · obtain ⟨k1, k2, k3⟩ := vx_keep h0 e1 hS hAX hf hL hF
    obtain ⟨t2, a1, b1⟩ := kx E ce q u t T'.heap (locs ++ L) e1.symm (by rw [← e2]; exact X'.warmed.alike) hp hb k1 k2 k3 (by rw [e1]; exact hce) hcv hcl T' rfl X'
    exact ⟨t2, st.trans a1, b1⟩
theorem vx_calld {S SX : Type} {post : UInt64 → S → Prop} {px : SX → Prop} {B : S → State → Prop} {BX : String → SX → State → Prop} {AX : Nat → Prop} (hr : vx_Run p l e R s m args below meth c H locs cells slots mc ms (F0 m pc ls st0) rest (va_Qd post B A1 a) (vx_X px BX AX) free) (hS : va_S A0 H0 H locs) (hA : ∀ q, q < H.size → A1 q → A0 q) (hf : ∀ q, free q → A0 q) (hAX : ∀ q, q < H.size → AX q → A0 q)
    (kx : ∀ (E : String) (ce : Cell) (q9 : Addr) (u : SX) (t : State) (H1 : Heap) (locs1 : List Loc), t.heap = H1 → s.vm.Alike t.vm → px u → BX E u t → H.size ≤ H1.size → (∀ q : Nat, q < H.size → ¬ AX q → H1[q]? = H[q]?) → va_S A0 H0 H1 locs1 → H1[q9]? = some ce → ce.vm = .none → s.vm.findClass E = some ce.cls → vx_W p l e R s m args below meth c H1 locs1 (cells + mc) (slots + ms) Q (F0 m pc ls rest) q9)
    (kk : ∀ (r : UInt64) (u : S) (t : State) (H1 : Heap) (locs1 : List Loc), t.heap = H1 → s.vm.Alike t.vm → post r u → B u t → H.size ≤ H1.size → (∀ q : Nat, q < H.size → ¬ A1 q → H1[q]? = H[q]?) → va_S A0 H0 H1 locs1 → W p l e R s m args below meth c H1 locs1 (cells + mc) (slots + ms) Q (F0 m (pc + 3) ls (.double r :: rest))) : W p l e R s m args below meth c H locs cells slots Q (F0 m pc ls st0) := by
  intro T hT X
  rcases hr T hT X with ⟨v, st₀, t, T', L, h0, X', hL, e1, e2, ⟨⟨r, u, hv, hp, hb⟩, hF⟩, st⟩ | ⟨q, st₀, t, T', L, E, ce, h0, X', hL, e1, e2, ⟨u, hp, hb, hF⟩, hce, hcv, hcl, st⟩
  · cases hv
    obtain ⟨k1, k2, k3⟩ := vx_keep h0 e1 hS hA hf hL hF
    obtain ⟨t2, a1, b1⟩ := kk r u t T'.heap (locs ++ L) e1.symm (by rw [← e2]; exact X'.warmed.alike) hp hb k1 k2 k3 T' rfl X'
    exact ⟨t2, st t2 a1, b1⟩
  · obtain ⟨k1, k2, k3⟩ := vx_keep h0 e1 hS hAX hf hL hF
    obtain ⟨t2, a1, b1⟩ := kx E ce q u t T'.heap (locs ++ L) e1.symm (by rw [← e2]; exact X'.warmed.alike) hp hb k1 k2 k3 (by rw [e1]; exact hce) hcv hcl T' rfl X'
    exact ⟨t2, st.trans a1, b1⟩
theorem vx_callv {S SX : Type} {post : S → Prop} {px : SX → Prop} {B : S → State → Prop} {BX : String → SX → State → Prop} {AX : Nat → Prop} (hr : vx_Run p l e R s m args below meth c H locs cells slots mc ms (F0 m pc ls st0) rest (va_Qv post B A1 a) (vx_X px BX AX) free) (hS : va_S A0 H0 H locs) (hA : ∀ q, q < H.size → A1 q → A0 q) (hf : ∀ q, free q → A0 q) (hAX : ∀ q, q < H.size → AX q → A0 q)
    (kx : ∀ (E : String) (ce : Cell) (q9 : Addr) (u : SX) (t : State) (H1 : Heap) (locs1 : List Loc), t.heap = H1 → s.vm.Alike t.vm → px u → BX E u t → H.size ≤ H1.size → (∀ q : Nat, q < H.size → ¬ AX q → H1[q]? = H[q]?) → va_S A0 H0 H1 locs1 → H1[q9]? = some ce → ce.vm = .none → s.vm.findClass E = some ce.cls → vx_W p l e R s m args below meth c H1 locs1 (cells + mc) (slots + ms) Q (F0 m pc ls rest) q9)
    (kk : ∀ (u : S) (t : State) (H1 : Heap) (locs1 : List Loc), t.heap = H1 → s.vm.Alike t.vm → post u → B u t → H.size ≤ H1.size → (∀ q : Nat, q < H.size → ¬ A1 q → H1[q]? = H[q]?) → va_S A0 H0 H1 locs1 → W p l e R s m args below meth c H1 locs1 (cells + mc) (slots + ms) Q (F0 m (pc + 3) ls (rest))) : W p l e R s m args below meth c H locs cells slots Q (F0 m pc ls st0) := by
  intro T hT X
  rcases hr T hT X with ⟨v, st₀, t, T', L, h0, X', hL, e1, e2, ⟨⟨u, hv, hp, hb⟩, hF⟩, st⟩ | ⟨q, st₀, t, T', L, E, ce, h0, X', hL, e1, e2, ⟨u, hp, hb, hF⟩, hce, hcv, hcl, st⟩
  · cases hv
    obtain ⟨k1, k2, k3⟩ := vx_keep h0 e1 hS hA hf hL hF
    obtain ⟨t2, a1, b1⟩ := kk u t T'.heap (locs ++ L) e1.symm (by rw [← e2]; exact X'.warmed.alike) hp hb k1 k2 k3 T' rfl X'
    exact ⟨t2, st t2 a1, b1⟩
  · obtain ⟨k1, k2, k3⟩ := vx_keep h0 e1 hS hAX hf hL hF
    obtain ⟨t2, a1, b1⟩ := kx E ce q u t T'.heap (locs ++ L) e1.symm (by rw [← e2]; exact X'.warmed.alike) hp hb k1 k2 k3 (by rw [e1]; exact hce) hcv hcl T' rfl X'
    exact ⟨t2, st.trans a1, b1⟩
/-- caught by the row x of this method's table; the rows ahead don't take it -/
theorem vx_catch {own name : String} {E : String} {ce : Cell} {q : Addr} (hown : s.vm.findClass own = some m.cls) (pre : List ExceptionTableEntry) (x : ExceptionTableEntry) (suf : List ExceptionTableEntry) (hsplit : c.exceptionTable.toList = pre ++ x :: suf)
    (hpass : ∀ z ∈ pre, covers z pc = false ∨ (z.catchType ≠ 0 ∧ ∃ nm : String, (Cond.classLink own z.catchType nm).before args s = true ∧ va_Nc E nm s)) (hx : covers x pc = true) (h0 : x.catchType ≠ 0)
    (hlink : (Cond.classLink own x.catchType name).before args s = true) (hcast : (Cond.castable E name).before args s = true) (hcell : H[q]? = some ce) (hv : ce.vm = .none) (hcl : s.vm.findClass E = some ce.cls)
    (kk : W p l e R s m args below meth c H locs cells slots Q (F0 m x.handlerPc ls [.ref q])) : vx_W p l e R s m args below meth c H locs cells slots Q (F0 m pc ls rest) q := by
  intro T hT X
  have hpl : e.platform.magicAccessors = ({} : Platform).magicAccessors := by rw [X.admits.platform]
  obtain ⟨c3, c4, hc3, hc4, hasg⟩ := Cond.castable_spec hcast
  cases Option.some.inj (hc3.symm.trans hcl)
  obtain ⟨c5, hc5, hcl5⟩ := Cond.classLink_spec hown hlink e.platform hpl
  cases Option.some.inj (hc4.symm.trans hc5)
  obtain ⟨vm', X', st⟩ := Jvm.Stand.thenCaughtThrough X q (g := F0 m pc ls rest) rfl (Steps.refl _) (by rw [hT]; exact hcell) (by rw [hv]; rfl) (by obtain ⟨k9, h9, -⟩ := Vm.findClass_spec hcl; exact ⟨k9, h9⟩) pre x suf hsplit
    (fun z hz => by
      rcases hpass z hz with h | ⟨hz0, nm, hl1, hn1⟩
      · exact Or.inl h
      · obtain ⟨c6, hc6, hcl6⟩ := Cond.classLink_spec hown hl1 e.platform hpl
        obtain ⟨a8, b8, h1, h2, h3⟩ := hn1
        cases Option.some.inj (h1.symm.trans hcl)
        cases Option.some.inj (h2.symm.trans hc6)
        exact Or.inr ⟨hz0, _, hcl6, h3⟩) hx (Or.inr ⟨h0, c4, hcl5, hasg⟩)
  obtain ⟨t, a1, b1⟩ := kk (T.setVm vm') hT X'
  exact ⟨t, st.trans a1, b1⟩
end Rows
section Ends
variable {p : Program} {l : Launch} {e : Env} {R : Room} {s : State} {m : MethodId} {args : Array Value} {below : List Frame} {meth : Method} {c : Code} {H : Heap} {locs : List Loc} {cells slots : Nat} {Q : State → Prop}
variable {mc ms : Nat} {free : Addr → Prop} {A0 A1 : Nat → Prop} {H0 : Heap} {a : Array Value} {ls : Array Slot} {st0 rest : List Value}
variable {Qc : Array Value → State → Outcome → State → Prop} {XC : String → State → State → Prop}
/-- what a body that may throw owes at its end -/
def vx_MQ (below : List Frame) (Qc : Array Value → State → Outcome → State → Prop) (XC : String → State → State → Prop) (a : Array Value) (s : State) (mc ms : Nat) (free : Addr → Prop) : State → Prop := fun t =>
  ∃ o, t.status = .running ∧ Ended t below o ∧ vx_Q Qc XC mc ms free a s o t
theorem vx_ret {g : JFrame} {mc ms : Nat} (k : W p l e R s m args below meth c H locs cells slots (MQ below Qc args s mc ms free) g) : W p l e R s m args below meth c H locs cells slots (vx_MQ below Qc XC args s mc ms free) g := by
  intro T hT X
  obtain ⟨t, a1, o, b1, b2, b3, b4⟩ := k T hT X
  exact ⟨t, a1, o, b1, b2, Or.inl ⟨b3, b4⟩⟩
/-- not caught here: it goes on to the caller -/
theorem vx_widen {g : JFrame} {q : Addr} {k n : Nat} (h1 : cells ≤ k) (h2 : slots ≤ n) (kk : vx_W p l e R s m args below meth c H locs k n Q g q) : vx_W p l e R s m args below meth c H locs cells slots Q g q := fun T hT X => kk T hT (stand_widen X h1 h2)
theorem vx_out {pc : Nat} {E : String} {ce : Cell} {q : Addr} {mc ms : Nat} (hout : ∀ x ∈ c.exceptionTable.toList, covers x pc = false) (hlocks : meth.locks = false) (hcell : H[q]? = some ce) (hv : ce.vm = .none) (hcl : s.vm.findClass E = some ce.cls)
    (hx : ∀ t : State, t.heap = H → s.vm.Alike t.vm → XC E s t) (hf : ∀ z ∈ locs, free z.base) (hc : cells ≤ mc) (hs : slots ≤ ms) :
    vx_W p l e R s m args below meth c H locs cells slots (vx_MQ below Qc XC args s mc ms free) (F0 m pc ls rest) q := by
  intro T hT X
  obtain ⟨st1, hrun, hend, hW, hsm⟩ := X.leaveThrown q (g := F0 m pc ls rest) rfl rfl rfl hout hlocks
  have hcell9 : (T.setFrames (.throwing q :: below)).heap[q]? = some ce := by
    show T.heap[q]? = some ce
    rw [hT]; exact hcell
  exact ⟨_, st1, .threw q, hrun, hend, Or.inr ⟨q, rfl, E, ce, locs, hx _ hT hW.alike, hcell9, hv, hcl, hW, hsm.mono hc hs, hf⟩⟩
theorem vx_frame {U : State} {k n : Nat} (h : s.sameButNew ({ U with vm := s.vm } : State) locs k n) : s.heap.size ≤ U.heap.size ∧ ∀ q : Nat, q < s.heap.size → (∀ z ∈ locs, z.base ≠ q) → U.heap[q]? = s.heap[q]? := by
  obtain ⟨-, h2, -, -, -, h6⟩ := h
  refine ⟨h2, fun q hq hz => ?_⟩
  obtain ⟨c9, e1, e2, e3, e4⟩ := h6 q _ (Array.getElem?_eq_getElem hq)
  have hs : c9.slots = (s.heap[q]).slots := Array.ext_getElem? fun i => e4 i fun hm => hz _ hm rfl
  have h9 : c9 = s.heap[q] := by
    rw [hs] at e2
    exact e2
  have e5 : U.heap[q]? = some c9 := e1
  rw [e5, h9, Array.getElem?_eq_getElem hq]
/-- the words of a throw but the four that speak of the heap -/
def vx_no (w : Cond) : Bool := decide (w ≠ .isRef (.static Bundle.tN "UNASSIGNED_STACK" Bundle.steD)) && decide (w ≠ .isRef (.static Bundle.tN "SUPPRESSED_SENTINEL" Bundle.listD)) && decide (w ≠ .laysStatic Bundle.tN "UNASSIGNED_STACK" Bundle.steD) && decide (w ≠ .laysStatic Bundle.tN "SUPPRESSED_SENTINEL" Bundle.listD)
def vx_at0 (own : String) (ic : Nat) (X : String) (names : List String) : List Cond := (Bundle.ownAtoms0 own ic X names).filter vx_no
def vx_atS (own : String) (ic : Nat) (X : String) (names : List String) : List Cond := (Bundle.ownAtoms own ic X names).filter vx_no
/-- a word that the tables alone decide, or a good one -/
def vx_ot (w : Cond) : Bool := w.onTables || goodWord w
theorem vx_ot_at {args a' : Array Value} {s U : State} {w : Cond} (hW : s.WarmedH U.vm) (hvm : s.vm = U.vm) (hg : vx_ot w = true) (h : w.before args s = true) : w.before a' U = true := by
  simp only [vx_ot, Bool.or_eq_true] at hg
  rcases hg with hg | hg
  · exact va_tabs hg hvm h
  · exact word_at hW (good_of_word hg) h
/-- a list's words: the good ones out of the method's own list, the others by premises of their own -/
theorem vx_hat {args : Array Value} {s : State} {L B : List Cond} (h1 : ∀ w ∈ L.filter goodWord, w.before args s = true) (h2 : ∀ w ∈ L.filter (fun w => !goodWord w), w ∈ B) (h3 : ∀ w ∈ B, w.before args s = true) : ∀ w ∈ L, w.before args s = true := by
  intro w hw
  by_cases g : goodWord w = true
  · exact h1 w (List.mem_filter.mpr ⟨hw, g⟩)
  · refine h3 w (h2 w (List.mem_filter.mpr ⟨hw, ?_⟩))
    show (!goodWord w) = true
    cases hgw : goodWord w
    · rfl
    · exact absurd hgw g
theorem vx_c {args : Array Value} {s : State} {w : Cond} {B : List Cond} (h : w.before args s = true) (t : ∀ w ∈ B, w.before args s = true) : ∀ w' ∈ w :: B, w'.before args s = true := fun w' h' => (List.mem_cons.mp h').elim (fun e => by rw [e]; exact h) (t w')
theorem vx_n {args : Array Value} {s : State} : ∀ w ∈ ([] : List Cond), w.before args s = true := fun _ h => nomatch h
theorem vx_own {args : Array Value} {s : State} {L : List Cond} (h1 : ∀ w ∈ L.filter vx_no, w.before args s = true)
    (hU : (Cond.isRef (.static Bundle.tN "UNASSIGNED_STACK" Bundle.steD)).before args s = true) (hN : (Cond.isRef (.static Bundle.tN "SUPPRESSED_SENTINEL" Bundle.listD)).before args s = true)
    (lU : (Cond.laysStatic Bundle.tN "UNASSIGNED_STACK" Bundle.steD).before args s = true) (lN : (Cond.laysStatic Bundle.tN "SUPPRESSED_SENTINEL" Bundle.listD).before args s = true) : ∀ w ∈ L, w.before args s = true := by
  intro w hw
  by_cases e1 : w = .isRef (.static Bundle.tN "UNASSIGNED_STACK" Bundle.steD)
  · rw [e1]; exact hU
  · by_cases e2 : w = .isRef (.static Bundle.tN "SUPPRESSED_SENTINEL" Bundle.listD)
    · rw [e2]; exact hN
    · by_cases e3 : w = .laysStatic Bundle.tN "UNASSIGNED_STACK" Bundle.steD
      · rw [e3]; exact lU
      · by_cases e4 : w = .laysStatic Bundle.tN "SUPPRESSED_SENTINEL" Bundle.listD
        · rw [e4]; exact lN
        · exact h1 w (List.mem_filter.mpr ⟨hw, by unfold vx_no; rw [decide_eq_true e1, decide_eq_true e2, decide_eq_true e3, decide_eq_true e4]; rfl⟩)
/-- where a static field lies, its class's statics cell in H -/
def vx_L (C n d : String) (A : Nat → Prop) (U : State) (H : Heap) : Prop := ∃ (c : ClassId) (k : Class) (i : Nat) (f : Field) (a : Nat) (cell : Cell), U.vm.findClass C = some c ∧ U.fieldFound? C n d = some (c, k, i, f) ∧ f.isStatic = true ∧ k.statics = some a ∧ H[a]? = some cell ∧ cell.vm.isStatics = true ∧ cell.cls = c ∧ f.slot < cell.slots.size ∧ k.staticTypes[f.slot]? = some f.type ∧ ¬ A a
theorem vx_L.moved {C n d : String} {A : Nat → Prop} {u U : State} {H : Heap} (hvm : u.vm.Alike U.vm) (h : vx_L C n d A u H) : vx_L C n d A U H := by
  obtain ⟨c, k, i, f, a, cell, h1, h2, h3, h4, h5, h6, h7, h8, h9, h10⟩ := h
  obtain ⟨k', hi', he⟩ := State.fieldFound?_setVm hvm h2
  exact ⟨c, k', i, f, a, cell, by rw [hvm.findClass]; exact h1, hi', h3, by rw [he]; exact h4, h5, h6, h7, h8, by rw [he]; exact h9, h10⟩
theorem vx_L.kept {C n d : String} {A : Nat → Prop} {U : State} {H H1 : Heap} (h : vx_L C n d A U H) (hq : ∀ a : Nat, a < H.size → ¬ A a → H1[a]? = H[a]?) : vx_L C n d A U H1 := by
  obtain ⟨c, k, i, f, a, cell, h1, h2, h3, h4, h5, h6, h7, h8, h9, h10⟩ := h
  exact ⟨c, k, i, f, a, cell, h1, h2, h3, h4, by rw [hq a (Array.getElem?_eq_some_iff.mp h5).1 h10]; exact h5, h6, h7, h8, h9, h10⟩
theorem vx_L.narrow {C n d : String} {A B : Nat → Prop} {U : State} {H : Heap} (h : vx_L C n d A U H) (hAB : ∀ q, B q → A q) : vx_L C n d B U H := by
  obtain ⟨c, k, i, f, a, cell, h1, h2, h3, h4, h5, h6, h7, h8, h9, h10⟩ := h
  exact ⟨c, k, i, f, a, cell, h1, h2, h3, h4, h5, h6, h7, h8, h9, fun z => h10 (hAB _ z)⟩
theorem vx_L.word {C n d : String} {A : Nat → Prop} {s : State} {args : Array Value} (h : vx_L C n d A s s.heap) : (Cond.laysStatic C n d).before args s = true := by
  obtain ⟨c, k, i, f, a, cell, h1, h2, h3, h4, h5, h6, h7, h8, h9, -⟩ := h
  show (Cond.laysStatic C n d).holds args s none s [] = true
  exact Cond.laysStatic_of h1 h2 h3 h4 h5 h6 h7 h8 h9
/-- .. and what it holds: null or some reference -/
def vx_Zq (C n d : String) (A : Nat → Prop) (U : State) (H : Heap) : Prop := va_Zq C n d A U H ∧ vx_L C n d A U H
theorem vx_Zq.moved {C n d : String} {A : Nat → Prop} {u U : State} {H : Heap} (hvm : u.vm.Alike U.vm) (h : vx_Zq C n d A u H) : vx_Zq C n d A U H := ⟨va_Zq.moved hvm h.1, vx_L.moved hvm h.2⟩
theorem vx_Zq.kept {C n d : String} {A : Nat → Prop} {U : State} {H H1 : Heap} (h : vx_Zq C n d A U H) (hq : ∀ a : Nat, a < H.size → ¬ A a → H1[a]? = H[a]?) : vx_Zq C n d A U H1 := ⟨va_Zq.kept h.1 hq, vx_L.kept h.2 hq⟩
theorem vx_Zq.narrow {C n d : String} {A B : Nat → Prop} {U : State} {H : Heap} (h : vx_Zq C n d A U H) (hAB : ∀ q, B q → A q) : vx_Zq C n d B U H := ⟨va_Zq.narrow h.1 hAB, vx_L.narrow h.2 hAB⟩
theorem vx_Zqof {args : Array Value} {s : State} {C n d : String} {A : Nat → Prop} (hl : (Cond.laysStatic C n d).before args s = true) (hini : (Cond.initialized C).before args s = true) (h : (Cond.isRef (.static C n d)).before args s = true) (hA : ∀ a : Nat, a < s.heap.size → ¬ A a) : vx_Zq C n d A s s.heap := by
  refine ⟨va_Zqof hl hini h hA, ?_⟩
  obtain ⟨c, k, i, f, a, cell, h1, h2, h3, h4, h5, h6, h7, h8, h9⟩ := Cond.laysStatic_spec hl
  exact ⟨c, k, i, f, a, cell, h1, h2, h3, h4, h5, h6, h7, h8, h9, hA a (Array.getElem?_eq_some_iff.mp h5).1⟩
theorem vx_isRef {C n d : String} {v : Value} {A : Nat → Prop} {s : State} {args : Array Value} (h : va_Z C n d v A s s.heap) (hv : v.isRef = true) : (Cond.isRef (.static C n d)).before args s = true := by
  obtain ⟨cf, kf, fi, f, a, cell, h1, h2, h3, h4, h5, h6, h7, -⟩ := h
  have he : (Term.static C n d).eval args s none [] s = some v := by
    simp [Term.eval, State.fieldNamed?, h1, h2, h4, h5, h6, h7]
  simp only [Cond.before, Cond.holds, Cond.value, he]
  cases v <;> simp_all [Value.isRef]
theorem vx_isRefq {C n d : String} {A : Nat → Prop} {s : State} {args : Array Value} (h : va_Zq C n d A s s.heap) : (Cond.isRef (.static C n d)).before args s = true := by
  rcases h with h | ⟨t, h⟩
  · exact vx_isRef h rfl
  · exact vx_isRef h rfl
/-- the same frame, seen from here: as if the method were called anew in this heap -/
theorem vx_rebase {T : State} (X : Stand p l e R s m args below meth c T locs cells slots) {R' : Room} (hf : R'.frames ≤ R.frames) (hl : R'.locals ≤ R.locals) (hc : cells + R'.cells ≤ R.cells) (hs : slots + R'.slots ≤ R.slots) :
    Stand p l e R' ((T.setVm s.vm).setFrames (.invoking m args :: below)) m args below meth c T [] 0 0 := by
  have htop : (T.setVm s.vm).topJava?.isSome := X.here.top
  have hF : ((T.setVm s.vm).setFrames (.invoking m args :: below)).frames = .invoking m args :: below := State.frames_setFrames _ (State.cur_lt_of_top htop)
  obtain ⟨g₀, hg0⟩ := Option.isSome_iff_exists.mp htop
  obtain ⟨r, hr⟩ := State.topJava?_eq_some.mp hg0
  have hl9 : e.platform.stackLimits (T.setVm s.vm).me = e.platform.stackLimits s.me := X.limits
  have hb9 : (T.setVm s.vm).me.stackBytes = s.me.stackBytes := X.bytes
  refine ⟨X.admits, X.cas, X.clock, hF, ?_, X.hears, X.method, X.code, X.here, X.tail, X.warmed, ?_, ?_, ?_⟩
  · have h := X.room
    have hU : ((T.setVm s.vm).setFrames (.invoking m args :: below)).localsInUse = s.localsInUse := by
      rw [State.localsInUse_invoking hF (meth := meth) (c := c) X.method X.code, State.localsInUse_invoking X.frames X.method X.code]
    simp only [State.hasRoom, Bool.and_eq_true, decide_eq_true_eq] at h ⊢
    obtain ⟨⟨⟨⟨h1, h2, h3, h4, h5, h6⟩, h7⟩, h8⟩, h9⟩ := h
    rw [X.frames, List.length_cons] at h2 h3
    have q1 := X.heapSize
    have q2 := X.used
    simp only [hF, hU, List.length_cons, State.stackLimits_setFrames, State.stackBytes_setFrames, hl9, hb9]
    refine ⟨⟨⟨⟨by omega, by omega, by omega, by omega, by omega, h6⟩, ?_⟩, ?_⟩, X.book⟩
    · show T.heap.size + R'.cells ≤ e.platform.maxCells
      omega
    · show T.slotsUsed + R'.slots ≤ e.platform.maxSlots
      omega
  · rw [State.stackLimits_setFrames]; rfl
  · rw [State.stackBytes_setFrames]; rfl
  · refine ⟨?_, Nat.le_refl _, Nat.le_refl _, ?_, ?_, fun a c9 h9 => ⟨c9, h9, rfl, rfl, fun _ _ => rfl⟩⟩
    · obtain ⟨t, ht, -⟩ := State.frames_cons hr
      show T.setVm s.vm = { ((T.setVm s.vm).setFrames (.invoking m args :: below)).setFrames (T.setVm s.vm).frames with heap := T.heap, slotsUsed := T.slotsUsed }
      rw [State.setFrames_setFrames, State.setFrames_self ht]
      rfl
    · show T.slotsUsed = T.slotsUsed + ((T.heap.toList.drop T.heap.size).map (·.slots.size)).sum
      rw [List.drop_eq_nil_of_le (Nat.le_of_eq Array.length_toList)]
      rfl
    · show ((T.heap.toList.drop T.heap.size).map (·.slots.size)).sum ≤ 0
      rw [List.drop_eq_nil_of_le (Nat.le_of_eq Array.length_toList)]
      exact Nat.le_refl _
/-- 'throw new E()': new; dup; invokespecial; athrow -/
theorem vx_throw0 {cc : ByteArray} {pc : Nat} (hexec : p.tables.exec = Jvm.exec) (hb : c.code = cc) (hl : l.stackTraces = false) {own cls : String} {names : List String} {ik ic mc ms : Nat} {A : Nat → Prop}
    (hown : s.vm.findClass own = some m.cls) (hcls : Bundle.fit cls = true) (hnames : ∀ n ∈ names, Bundle.fit n = true)
    (hk : (Cond.classLink own ik cls).before args s = true) (hini : (Cond.initialized cls).before args s = true) (hat : ∀ w ∈ vx_at0 own ic cls names, w.before args s = true)
    (hgood : ∀ w ∈ Cond.classLink own ik cls :: Cond.initialized cls :: vx_at0 own ic cls names, vx_ot w = true)
    (hU : vx_Zq Bundle.tN "UNASSIGNED_STACK" Bundle.steD A s s.heap) (hN : vx_Zq Bundle.tN "SUPPRESSED_SENTINEL" Bundle.listD A s s.heap) (hS : va_S A s.heap H locs) (hsize : ls.size = c.maxLocals)
    (d0 : decode cc pc = .ok (.new ik, 3)) (d3 : decode cc (pc + 3) = .ok (.dup, 1)) (d4 : decode cc (pc + 4) = .ok (.invokespecial ic, 3)) (d7 : decode cc (pc + 7) = .ok (.athrow, 1))
    (hout : ∀ x ∈ c.exceptionTable.toList, covers x (pc + 7) = false)
    (hRframes : names.length + 3 < R.frames) (hRlocals : (rest.map fun v => v.category).sum + (13 * (names.length + 1) + 42) ≤ R.locals) (hRcells : cells + 1 ≤ R.cells) (hRslots : slots + 6 ≤ R.slots) (hlocks : meth.locks = false)
    (hx : ∀ t : State, s.vm.Alike t.vm → H.size ≤ t.heap.size → (∀ q : Nat, q < H.size → t.heap[q]? = H[q]?) → XC cls s t)
    (hf : ∀ z ∈ locs, free z.base) (hc : cells + 1 ≤ mc) (hs : slots + 6 ≤ ms) :
    W p l e R s m args below meth c H locs cells slots (vx_MQ below Qc XC args s mc ms free) (F0 m pc ls rest) := by
  intro T hT X
  have htr : e.platform.stackTraces = false := (show e.platform.stackTraces = l.stackTraces by rw [X.admits.platform]).trans hl
  have Y := vx_rebase X (R' := { frames := R.frames, locals := R.locals, cells := 1, slots := 6 }) (Nat.le_refl _) (Nat.le_refl _) hRcells hRslots
  obtain ⟨s', hA⟩ : ∃ z, z = (T.setVm s.vm).setFrames (.invoking m args :: below) := ⟨_, rfl⟩
  rw [← hA] at Y
  have hvm : s'.vm = s.vm := by rw [hA]; rfl
  have hhp : s'.heap = H := by rw [hA]; exact hT
  have hW0 : s.WarmedH s'.vm := by rw [hvm]; exact State.WarmedH.refl s
  have hat' : ∀ w ∈ vx_at0 own ic cls names, w.before args s' = true := fun w hw => vx_ot_at hW0 hvm.symm (hgood w (List.mem_cons_of_mem _ (List.mem_cons_of_mem _ hw))) (hat w hw)
  have hk' : (Cond.classLink own ik cls).before args s' = true := vx_ot_at hW0 hvm.symm (hgood _ List.mem_cons_self) hk
  have hini' : (Cond.initialized cls).before args s' = true := vx_ot_at hW0 hvm.symm (hgood _ (List.mem_cons_of_mem _ List.mem_cons_self)) hini
  have hU' : vx_Zq Bundle.tN "UNASSIGNED_STACK" Bundle.steD A s' s'.heap := by rw [hhp]; exact vx_Zq.moved hW0.alike (hU.kept hS.2.1)
  have hN' : vx_Zq Bundle.tN "SUPPRESSED_SENTINEL" Bundle.listD A s' s'.heap := by rw [hhp]; exact vx_Zq.moved hW0.alike (hN.kept hS.2.1)
  have h : ∀ w ∈ Bundle.ownAtoms0 own ic cls names, w.before args s' = true := vx_own hat' (vx_isRefq hU'.1) (vx_isRefq hN'.1) hU'.2.word hN'.2.word
  have hown' : s'.vm.findClass own = some m.cls := by rw [hvm]; exact hown
  have hins : (Cond.instantiable cls 6).before args s' = true := h _ (by simp [Bundle.ownAtoms0])
  obtain ⟨vm₁, cX, kX, hfX, hkX, -, -, X₁, st1⟩ := Y.newCold hexec (own := own) (C := cls) (index := ik) (n := 6) hown' hk' hins hini'
    (g := F0 m pc ls rest) rfl (by rw [hb]; exact d0) (Nat.le_refl _) (Nat.le_refl _)
  generalize hT1 : (T.setVm vm₁).pushCell { cls := cX, slots := kX.instanceTypes.map defaultValue, vm := .none } = T1 at X₁ st1
  have hcat : (Value.ref T.heap.size).category = 1 := rfl
  have hcellA : T1.heap[T.heap.size]? = some (freshCell cX kX) := by rw [← hT1]; exact State.heap_pushCell_size _ _
  have d3' : decode c.code (pc + 3) = .ok (.dup, 1) := by rw [hb]; exact d3
  obtain ⟨U, hsteps, hrun, hend, hW, hsame, ce, hce, hO⟩ := X₁.ctorThrow0 hexec htr (own := own) (cls := cls) (names := names) (ic := ic) hown' hcls hnames h (fun x hx => nomatch hx) hfX hkX hcellA (by rw [hhp, hT]; exact Nat.le_refl _)
    (g := { method := m, pc := pc + 4, locals := ls, stack := .ref T.heap.size :: .ref T.heap.size :: rest, locked := none }) rfl hsize rfl rfl (rest := rest) rfl
    (by rw [hb]; exact d4) (by rw [hb]; exact d7) hout hRframes (by simp only [List.map_cons, List.sum_cons, hcat]; omega) hlocks
  obtain ⟨f1, f2⟩ := vx_frame hsame
  rw [hhp] at f1 f2
  have hWs : s.WarmedH U.vm := State.WarmedH.trans hW0 hW
  have hcl : s.vm.findClass cls = some ce.cls := by
    have h9 := hO.cls
    rw [hvm] at h9
    exact h9
  have hall : s.sameButNew ({ U with vm := s.vm } : State) locs mc ms := by
    subst hA
    obtain ⟨e1, e2⟩ := hsame
    rw [State.setFrames_setFrames] at e1
    have h2 : (T.setVm s.vm).sameButNew ({ U with vm := s.vm } : State) [] (0 + 1) (0 + 6) := ⟨e1, e2⟩
    have h3 := X.same.trans h2
    rw [List.append_nil] at h3
    exact h3.mono hc hs
  refine ⟨U, ?_, .threw T.heap.size, hrun, hend, Or.inr ⟨T.heap.size, rfl, cls, ce, locs, hx U hWs.alike f1 (fun q hq => f2 q hq (fun z hz => nomatch hz)), hce, hO.vm, hcl, hWs, hall, hf⟩⟩
  refine st1 _ ?_
  show Steps p.tables e below (T1.setTop { method := m, pc := pc + 3, locals := ls, stack := .ref T.heap.size :: rest, locked := none }) _
  jvm_step X₁.here [X₁.here.top, hexec, d3', Value.category]
  exact hsteps
/-- 'throw new E("text")': new; dup; ldc; invokespecial; athrow -/
theorem vx_throwS {cc : ByteArray} {pc : Nat} (hexec : p.tables.exec = Jvm.exec) (hb : c.code = cc) (hl : l.stackTraces = false) {own cls text : String} {names : List String} {ik is ic mc ms sa : Nat} {A : Nat → Prop}
    (hown : s.vm.findClass own = some m.cls) (hcls : Bundle.fit cls = true) (hnames : ∀ n ∈ names, Bundle.fit n = true)
    (hk : (Cond.classLink own ik cls).before args s = true) (hini : (Cond.initialized cls).before args s = true) (hstr : vk_R own is text sa s) (hat : ∀ w ∈ vx_atS own ic cls names, w.before args s = true)
    (hgood : ∀ w ∈ Cond.classLink own ik cls :: Cond.initialized cls :: vx_atS own ic cls names, vx_ot w = true)
    (hU : vx_Zq Bundle.tN "UNASSIGNED_STACK" Bundle.steD A s s.heap) (hN : vx_Zq Bundle.tN "SUPPRESSED_SENTINEL" Bundle.listD A s s.heap) (hS : va_S A s.heap H locs) (hsize : ls.size = c.maxLocals)
    (d0 : decode cc pc = .ok (.new ik, 3)) (d3 : decode cc (pc + 3) = .ok (.dup, 1)) (d4 : decode cc (pc + 4) = .ok (.ldc is, 2)) (d6 : decode cc (pc + 6) = .ok (.invokespecial ic, 3)) (d9 : decode cc (pc + 9) = .ok (.athrow, 1))
    (hout : ∀ x ∈ c.exceptionTable.toList, covers x (pc + 9) = false)
    (hRframes : names.length + 3 < R.frames) (hRlocals : (rest.map fun v => v.category).sum + (13 * (names.length + 1) + 43) ≤ R.locals) (hRcells : cells + 1 ≤ R.cells) (hRslots : slots + 6 ≤ R.slots) (hlocks : meth.locks = false)
    (hx : ∀ t : State, s.vm.Alike t.vm → H.size ≤ t.heap.size → (∀ q : Nat, q < H.size → t.heap[q]? = H[q]?) → XC cls s t)
    (hf : ∀ z ∈ locs, free z.base) (hc : cells + 1 ≤ mc) (hs : slots + 6 ≤ ms) :
    W p l e R s m args below meth c H locs cells slots (vx_MQ below Qc XC args s mc ms free) (F0 m pc ls rest) := by
  intro T hT X
  have htr : e.platform.stackTraces = false := (show e.platform.stackTraces = l.stackTraces by rw [X.admits.platform]).trans hl
  have Y := vx_rebase X (R' := { frames := R.frames, locals := R.locals, cells := 1, slots := 6 }) (Nat.le_refl _) (Nat.le_refl _) hRcells hRslots
  obtain ⟨s', hA⟩ : ∃ z, z = (T.setVm s.vm).setFrames (.invoking m args :: below) := ⟨_, rfl⟩
  rw [← hA] at Y
  have hvm : s'.vm = s.vm := by rw [hA]; rfl
  have hhp : s'.heap = H := by rw [hA]; exact hT
  have hW0 : s.WarmedH s'.vm := by rw [hvm]; exact State.WarmedH.refl s
  have hat' : ∀ w ∈ vx_atS own ic cls names, w.before args s' = true := fun w hw => vx_ot_at hW0 hvm.symm (hgood w (List.mem_cons_of_mem _ (List.mem_cons_of_mem _ hw))) (hat w hw)
  have hk' : (Cond.classLink own ik cls).before args s' = true := vx_ot_at hW0 hvm.symm (hgood _ List.mem_cons_self) hk
  have hini' : (Cond.initialized cls).before args s' = true := vx_ot_at hW0 hvm.symm (hgood _ (List.mem_cons_of_mem _ List.mem_cons_self)) hini
  have hU' : vx_Zq Bundle.tN "UNASSIGNED_STACK" Bundle.steD A s' s'.heap := by rw [hhp]; exact vx_Zq.moved hW0.alike (hU.kept hS.2.1)
  have hN' : vx_Zq Bundle.tN "SUPPRESSED_SENTINEL" Bundle.listD A s' s'.heap := by rw [hhp]; exact vx_Zq.moved hW0.alike (hN.kept hS.2.1)
  have h : ∀ w ∈ Bundle.ownAtoms own ic cls names, w.before args s' = true := vx_own hat' (vx_isRefq hU'.1) (vx_isRefq hN'.1) hU'.2.word hN'.2.word
  have hown' : s'.vm.findClass own = some m.cls := by rw [hvm]; exact hown
  have hins : (Cond.instantiable cls 6).before args s' = true := h _ (by simp [Bundle.ownAtoms])
  obtain ⟨vm₁, cX, kX, hfX, hkX, -, -, X₁, st1⟩ := Y.newCold hexec (own := own) (C := cls) (index := ik) (n := 6) hown' hk' hins hini'
    (g := F0 m pc ls rest) rfl (by rw [hb]; exact d0) (Nat.le_refl _) (Nat.le_refl _)
  generalize hT1 : (T.setVm vm₁).pushCell { cls := cX, slots := kX.instanceTypes.map defaultValue, vm := .none } = T1 at X₁ st1
  have hcat : (Value.ref T.heap.size).category = 1 := rfl
  have hcellA : T1.heap[T.heap.size]? = some (freshCell cX kX) := by rw [← hT1]; exact State.heap_pushCell_size _ _
  have d3' : decode c.code (pc + 3) = .ok (.dup, 1) := by rw [hb]; exact d3
  have d4' : decode c.code (pc + 4) = .ok (.ldc is, 2) := by rw [hb]; exact d4
  have hstr' : vk_R own is text sa s' := vk_R.warm hW0 hstr
  obtain ⟨U, hsteps, hrun, hend, hW, hsame, ce, hce, hO⟩ := X₁.ctorThrowS hexec htr (own := own) (cls := cls) (names := names) (ic := ic) hown' hcls hnames h (fun x hx => nomatch hx) hfX hkX hcellA (by rw [hhp, hT]; exact Nat.le_refl _) (msg := .ref sa) rfl
    (g := { method := m, pc := pc + 6, locals := ls, stack := .ref sa :: .ref T.heap.size :: .ref T.heap.size :: rest, locked := none }) rfl hsize rfl rfl (rest := rest) rfl
    (by rw [hb]; exact d6) (by rw [hb]; exact d9) hout hRframes (by simp only [List.map_cons, List.sum_cons, hcat]; omega) hlocks
  obtain ⟨f1, f2⟩ := vx_frame hsame
  rw [hhp] at f1 f2
  have hWs : s.WarmedH U.vm := State.WarmedH.trans hW0 hW
  have hcl : s.vm.findClass cls = some ce.cls := by
    have h9 := hO.cls
    rw [hvm] at h9
    exact h9
  have hall : s.sameButNew ({ U with vm := s.vm } : State) locs mc ms := by
    subst hA
    obtain ⟨e1, e2⟩ := hsame
    rw [State.setFrames_setFrames] at e1
    have h2 : (T.setVm s.vm).sameButNew ({ U with vm := s.vm } : State) [] (0 + 1) (0 + 6) := ⟨e1, e2⟩
    have h3 := X.same.trans h2
    rw [List.append_nil] at h3
    exact h3.mono hc hs
  refine ⟨U, ?_, .threw T.heap.size, hrun, hend, Or.inr ⟨T.heap.size, rfl, cls, ce, locs, hx U hWs.alike f1 (fun q hq => f2 q hq (fun z hz => nomatch hz)), hce, hO.vm, hcl, hWs, hall, hf⟩⟩
  refine st1 _ ?_
  show Steps p.tables e below (T1.setTop { method := m, pc := pc + 3, locals := ls, stack := .ref T.heap.size :: rest, locked := none }) _
  jvm_step X₁.here [X₁.here.top, hexec, d3', Value.category]
  exact X₁.ldcString hexec (own := own) (text := text) (index := is) (a := sa) hown' hstr'.1 hstr'.2
    (g := { method := m, pc := pc + 4, locals := ls, stack := .ref T.heap.size :: .ref T.heap.size :: rest, locked := none }) rfl d4' _ hsteps
/-- 'throw new E("text")', the text by a wide index -/
theorem vx_throwSW {cc : ByteArray} {pc : Nat} (hexec : p.tables.exec = Jvm.exec) (hb : c.code = cc) (hl : l.stackTraces = false) {own cls text : String} {names : List String} {ik is ic mc ms sa : Nat} {A : Nat → Prop}
    (hown : s.vm.findClass own = some m.cls) (hcls : Bundle.fit cls = true) (hnames : ∀ n ∈ names, Bundle.fit n = true)
    (hk : (Cond.classLink own ik cls).before args s = true) (hini : (Cond.initialized cls).before args s = true) (hstr : vk_R own is text sa s) (hat : ∀ w ∈ vx_atS own ic cls names, w.before args s = true)
    (hgood : ∀ w ∈ Cond.classLink own ik cls :: Cond.initialized cls :: vx_atS own ic cls names, vx_ot w = true)
    (hU : vx_Zq Bundle.tN "UNASSIGNED_STACK" Bundle.steD A s s.heap) (hN : vx_Zq Bundle.tN "SUPPRESSED_SENTINEL" Bundle.listD A s s.heap) (hS : va_S A s.heap H locs) (hsize : ls.size = c.maxLocals)
    (d0 : decode cc pc = .ok (.new ik, 3)) (d3 : decode cc (pc + 3) = .ok (.dup, 1)) (d4 : decode cc (pc + 4) = .ok (.ldc_w is, 3)) (d7 : decode cc (pc + 7) = .ok (.invokespecial ic, 3)) (d10 : decode cc (pc + 10) = .ok (.athrow, 1))
    (hout : ∀ x ∈ c.exceptionTable.toList, covers x (pc + 10) = false)
    (hRframes : names.length + 3 < R.frames) (hRlocals : (rest.map fun v => v.category).sum + (13 * (names.length + 1) + 43) ≤ R.locals) (hRcells : cells + 1 ≤ R.cells) (hRslots : slots + 6 ≤ R.slots) (hlocks : meth.locks = false)
    (hx : ∀ t : State, s.vm.Alike t.vm → H.size ≤ t.heap.size → (∀ q : Nat, q < H.size → t.heap[q]? = H[q]?) → XC cls s t)
    (hf : ∀ z ∈ locs, free z.base) (hc : cells + 1 ≤ mc) (hs : slots + 6 ≤ ms) :
    W p l e R s m args below meth c H locs cells slots (vx_MQ below Qc XC args s mc ms free) (F0 m pc ls rest) := by
  intro T hT X
  have htr : e.platform.stackTraces = false := (show e.platform.stackTraces = l.stackTraces by rw [X.admits.platform]).trans hl
  have Y := vx_rebase X (R' := { frames := R.frames, locals := R.locals, cells := 1, slots := 6 }) (Nat.le_refl _) (Nat.le_refl _) hRcells hRslots
  obtain ⟨s', hA⟩ : ∃ z, z = (T.setVm s.vm).setFrames (.invoking m args :: below) := ⟨_, rfl⟩
  rw [← hA] at Y
  have hvm : s'.vm = s.vm := by rw [hA]; rfl
  have hhp : s'.heap = H := by rw [hA]; exact hT
  have hW0 : s.WarmedH s'.vm := by rw [hvm]; exact State.WarmedH.refl s
  have hat' : ∀ w ∈ vx_atS own ic cls names, w.before args s' = true := fun w hw => vx_ot_at hW0 hvm.symm (hgood w (List.mem_cons_of_mem _ (List.mem_cons_of_mem _ hw))) (hat w hw)
  have hk' : (Cond.classLink own ik cls).before args s' = true := vx_ot_at hW0 hvm.symm (hgood _ List.mem_cons_self) hk
  have hini' : (Cond.initialized cls).before args s' = true := vx_ot_at hW0 hvm.symm (hgood _ (List.mem_cons_of_mem _ List.mem_cons_self)) hini
  have hU' : vx_Zq Bundle.tN "UNASSIGNED_STACK" Bundle.steD A s' s'.heap := by rw [hhp]; exact vx_Zq.moved hW0.alike (hU.kept hS.2.1)
  have hN' : vx_Zq Bundle.tN "SUPPRESSED_SENTINEL" Bundle.listD A s' s'.heap := by rw [hhp]; exact vx_Zq.moved hW0.alike (hN.kept hS.2.1)
  have h : ∀ w ∈ Bundle.ownAtoms own ic cls names, w.before args s' = true := vx_own hat' (vx_isRefq hU'.1) (vx_isRefq hN'.1) hU'.2.word hN'.2.word
  have hown' : s'.vm.findClass own = some m.cls := by rw [hvm]; exact hown
  have hins : (Cond.instantiable cls 6).before args s' = true := h _ (by simp [Bundle.ownAtoms])
  obtain ⟨vm₁, cX, kX, hfX, hkX, -, -, X₁, st1⟩ := Y.newCold hexec (own := own) (C := cls) (index := ik) (n := 6) hown' hk' hins hini'
    (g := F0 m pc ls rest) rfl (by rw [hb]; exact d0) (Nat.le_refl _) (Nat.le_refl _)
  generalize hT1 : (T.setVm vm₁).pushCell { cls := cX, slots := kX.instanceTypes.map defaultValue, vm := .none } = T1 at X₁ st1
  have hcat : (Value.ref T.heap.size).category = 1 := rfl
  have hcellA : T1.heap[T.heap.size]? = some (freshCell cX kX) := by rw [← hT1]; exact State.heap_pushCell_size _ _
  have d3' : decode c.code (pc + 3) = .ok (.dup, 1) := by rw [hb]; exact d3
  have d4' : decode c.code (pc + 4) = .ok (.ldc_w is, 3) := by rw [hb]; exact d4
  have hstr' : vk_R own is text sa s' := vk_R.warm hW0 hstr
  obtain ⟨U, hsteps, hrun, hend, hW, hsame, ce, hce, hO⟩ := X₁.ctorThrowS hexec htr (own := own) (cls := cls) (names := names) (ic := ic) hown' hcls hnames h (fun x hx => nomatch hx) hfX hkX hcellA (by rw [hhp, hT]; exact Nat.le_refl _) (msg := .ref sa) rfl
    (g := { method := m, pc := pc + 7, locals := ls, stack := .ref sa :: .ref T.heap.size :: .ref T.heap.size :: rest, locked := none }) rfl hsize rfl rfl (rest := rest) rfl
    (by rw [hb]; exact d7) (by rw [hb]; exact d10) hout hRframes (by simp only [List.map_cons, List.sum_cons, hcat]; omega) hlocks
  obtain ⟨f1, f2⟩ := vx_frame hsame
  rw [hhp] at f1 f2
  have hWs : s.WarmedH U.vm := State.WarmedH.trans hW0 hW
  have hcl : s.vm.findClass cls = some ce.cls := by
    have h9 := hO.cls
    rw [hvm] at h9
    exact h9
  have hall : s.sameButNew ({ U with vm := s.vm } : State) locs mc ms := by
    subst hA
    obtain ⟨e1, e2⟩ := hsame
    rw [State.setFrames_setFrames] at e1
    have h2 : (T.setVm s.vm).sameButNew ({ U with vm := s.vm } : State) [] (0 + 1) (0 + 6) := ⟨e1, e2⟩
    have h3 := X.same.trans h2
    rw [List.append_nil] at h3
    exact h3.mono hc hs
  refine ⟨U, ?_, .threw T.heap.size, hrun, hend, Or.inr ⟨T.heap.size, rfl, cls, ce, locs, hx U hWs.alike f1 (fun q hq => f2 q hq (fun z hz => nomatch hz)), hce, hO.vm, hcl, hWs, hall, hf⟩⟩
  refine st1 _ ?_
  show Steps p.tables e below (T1.setTop { method := m, pc := pc + 3, locals := ls, stack := .ref T.heap.size :: rest, locked := none }) _
  jvm_step X₁.here [X₁.here.top, hexec, d3', Value.category]
  exact X₁.ldcStringW hexec (own := own) (text := text) (index := is) (a := sa) hown' hstr'.1 hstr'.2
    (g := { method := m, pc := pc + 4, locals := ls, stack := .ref T.heap.size :: .ref T.heap.size :: rest, locked := none }) rfl d4' _ hsteps
end Ends
section Bodies
variable {l : Launch}
theorem vx_ofW {y : MethodName} {ws ws' : List Cond} {rm : Room} {Pc : Array Value → State → Prop} {Qc : Array Value → State → Outcome → State → Prop} {XC : String → State → State → Prop} {mc ms : Nat} {free : Addr → Prop} {cc : ByteArray} {maxL : Nat} {ret : Option FieldType}
    (hy : plainName y.cls = true) (hw : ws = Cond.code y cc maxL ret :: ws')
    (body : ∀ p e s m args below meth c s₁, BodyLoose p l y (headSpec ws rm) cc maxL ret e s m args below meth c s₁ → c.maxLocals = maxL → (∀ x ∈ c.exceptionTable.toList, False) → Pc args s →
      W p l e (headSpec ws rm).room s m args below meth c s.heap [] 0 0 (vx_MQ below Qc XC args s mc ms free) (entryFrame m args maxL)) : vx_Met l y ws rm Pc Qc XC mc ms free := by
  refine MetFree.of_bodyS (code := cc) (maxLocals := maxL) (ret := ret) hy ?_ ?_
  · intro args s m h hn
    obtain ⟨meth, c, h1, h2, h3, h4, h5, h6, -, -⟩ := Cond.code_spec hn (atoms_spec (ws := ws) h _ (by rw [hw]; exact List.mem_cons_self))
    exact ⟨meth, c, h1, h2, h3, h4, h5, h6⟩
  · intro p e s m args below meth c s₁ B hml hP _
    have hh0 : s₁.heap = s.heap := by rw [B.state]; rfl
    have ht : ∀ x ∈ c.exceptionTable.toList, False := by
      obtain ⟨meth9, c9, h1, h2, -, -, -, -, h7, -⟩ := Cond.code_spec B.named (atoms_spec (ws := ws) B.pre _ (by rw [hw]; exact List.mem_cons_self))
      cases Option.some.inj (h1.symm.trans B.method)
      cases Option.some.inj (h2.symm.trans (Stand.of_body B).code)
      intro x hx
      rw [Array.isEmpty_iff.mp h7] at hx
      cases hx
    obtain ⟨t, a1, o, b1, b2, b3⟩ := body p e s m args below meth c s₁ B hml ht hP s₁ hh0 (Stand.of_body B)
    exact ⟨t, o, a1, b1, b2, b3⟩
/-- the table of a body with handlers -/
theorem vx_table {p : Program} {x y : MethodName} {S : Spec} {cc bytes : ByteArray} {maxL maxL' : Nat} {ret ret' : Option FieldType} {e : Env} {s s₁ : State} {m : MethodId} {args : Array Value} {below : List Frame} {meth : Method} {c : Code} {hh : List (Nat × Nat × Nat × Nat)}
    (B : BodyLoose p l y S cc maxL ret e s m args below meth c s₁) (h : (Cond.codeWith y bytes maxL' ret' hh).before args s = true) : c.exceptionTable.toList = tableOf hh := by
  obtain ⟨m9, meth9, c9, hn9, h1, h2, -, -, h6, -⟩ := Cond.codeWith_spec h
  cases Option.some.inj (hn9.symm.trans B.named)
  cases Option.some.inj (h1.symm.trans B.method)
  cases Option.some.inj (h2.symm.trans (Stand.of_body B).code)
  rw [← h6, table_eq]
end Bodies
end VXA
/-! ===== END ===== -/
/-! ===== BEGIN a static call of a method with an exception table ===== -/
section VXS
variable {p : Program} {l : Launch} {e : Env} {R : Room} {s : State} {m : MethodId} {args : Array Value} {below : List Frame} {meth : Method} {c : Code} {T : State} {H : Heap} {locs : List Loc} {cells slots : Nat}
abbrev vx_CSW (R : Room) (s : State) (args : Array Value) (own : String) (index : Nat) (y : MethodName) (bytes : ByteArray) (maxL : Nat) (ret : Option FieldType) (hh : List (Nat × Nat × Nat × Nat)) (ws : List Cond) (rm : Room) (mc ms n : Nat) : Prop :=
  (rm.cells = mc ∧ rm.slots = ms ∧ rm.frames + 1 ≤ R.frames ∧ 8 + (maxL + 11) + rm.locals ≤ R.locals ∧ (∀ w ∈ ws, ∀ (a' : Array Value) (U : State), s.WarmedH U.vm → w.before a' U = true) ∧ Cond.codeWith y bytes maxL ret hh ∈ ws) ∧
  (Cond.codeWith y bytes maxL ret hh).before args s = true ∧ (Cond.initialized y.cls).before args s = true ∧ (y.cls ≠ "java/lang/invoke/MethodHandle" ∧ y.cls ≠ "java/lang/invoke/VarHandle") ∧
  (∀ sig, parseMethodDescriptor y.desc = some sig → n = sig.parameters.length) ∧ (Cond.methodLink own index y).before args s = true ∧ (Cond.static y).before args s = true
theorem vx_cwSW {own : String} {index maxL mc ms : Nat} {y : MethodName} {bytes : ByteArray} {ret : Option FieldType} {hh : List (Nat × Nat × Nat × Nat)} {Ts ws ws' : List Cond} {rm : Room} (n : Nat) (ht : ∀ w ∈ Ts, w.before args s = true) (hT : GoodIn Ts (va_wsS own index y ws)) (hw : ws = Cond.codeWith y bytes maxL ret hh :: ws') (hrc : rm.cells = mc) (hrs : rm.slots = ms)
    (hd : y.cls ≠ "java/lang/invoke/MethodHandle" ∧ y.cls ≠ "java/lang/invoke/VarHandle" ∧ (parseMethodDescriptor y.desc).map (fun d => d.parameters.length) = some n) (hR : rm.frames + 1 ≤ R.frames ∧ 8 + (maxL + 11) + rm.locals ≤ R.locals) :
    vx_CSW R s args own index y bytes maxL ret hh ws rm mc ms n := by
  have ok : ∀ w ∈ va_wsS own index y ws, w.before args s = true := fun w h => ht w (hT w h).1
  have hG : GoodIn Ts ws := fun w h => hT w (by unfold va_wsS; exact List.mem_append_right _ h)
  have hc : Cond.codeWith y bytes maxL ret hh ∈ ws := by rw [hw]; exact List.mem_cons_self
  refine ⟨⟨hrc, hrs, hR.1, hR.2, pay_in ht hG, hc⟩, ht _ (hG _ hc).1, ok _ (by simp [va_wsS]), ⟨hd.1, hd.2.1⟩, fun sig h => ?_, ok _ (by simp [va_wsS]), ok _ (by simp [va_wsS])⟩
  have h2 := hd.2.2
  rw [h] at h2
  exact (Option.some.inj h2).symm
theorem vx_callSW (X : Stand p l e R s m args below meth c T locs cells slots) (hexec : p.tables.exec = Jvm.exec) {own : String} {index : Nat} {y : MethodName} {bytes : ByteArray} {maxL : Nat} {ret : Option FieldType} {hh : List (Nat × Nat × Nat × Nat)}
    (hown : s.vm.findClass own = some m.cls) (hlink : (Cond.methodLink own index y).before args s = true) (hstat : (Cond.static y).before args s = true) (hinit : (Cond.initialized y.cls).before args s = true)
    (hcode : (Cond.codeWith y bytes maxL ret hh).before args s = true) (hy : y.cls ≠ "java/lang/invoke/MethodHandle" ∧ y.cls ≠ "java/lang/invoke/VarHandle")
    {W9 : Nat} {Pre : Pt → Array Value → Prop} {Post : Pt → Array Value → Option Value → Pt → Prop} (hK : Back l R p e below s args y 3 W9 Pre Post)
    {g : JFrame} (hg : g.method = m) (hsize : g.locals.size = c.maxLocals) {argsL rest : List Value} (hlen : ∀ sig, parseMethodDescriptor y.desc = some sig → argsL.length = sig.parameters.length)
    (hstack : g.stack = argsL.reverse ++ rest) (hW : 2 * g.monitorRoom + (rest.map fun v => v.category).sum ≤ W9) (hdg : decode c.code g.pc = .ok (.invokestatic index, 3))
    (hpre : ∀ vm₁, s.WarmedH vm₁ → Pre ⟨T.setVm vm₁, locs, cells, slots⟩ argsL.toArray) :
    ∃ (v : Option Value) (vm₁ : Vm) (B : Pt), s.WarmedH vm₁ ∧ Stand p l e R s m args below meth c B.U B.locs B.cells B.slots ∧ Post ⟨T.setVm vm₁, locs, cells, slots⟩ argsL.toArray v B ∧
      ∀ target, Steps p.tables e below (B.U.setTop { g with pc := g.pc + 3, stack := v.toList ++ rest }) target → Steps p.tables e below (T.setTop g) target := by
  obtain ⟨mk, methM, cM, hnamed, hmethM, -, -, -, -, -, -, hsigM⟩ := Cond.codeWith_spec hcode
  have hstatic : methM.isStatic = true := Cond.static_spec hnamed hmethM hstat
  obtain ⟨kP, hkP, -⟩ := className_of_methodNamed hnamed
  have hinitP : kP.init = .initialized := Cond.initialized_spec (findClass_of_methodNamed hnamed) hkP hinit
  obtain ⟨vm₁, X₁, hstep₁⟩ := X.invokestatic hexec hown hlink hnamed hmethM hstatic hkP hinitP hy (g := g) hg (argsL := argsL) (rest := rest) (hlen _ hsigM) hstack hdg
  obtain ⟨v, B, X', hpost, hsteps⟩ := hK m meth c ⟨T.setVm vm₁, locs, cells, slots⟩ { g with stack := rest } (.invokestatic index) mk argsL.toArray X₁ hg hsize hdg hW (X₁.named hnamed) (hpre vm₁ X₁.warmed)
  exact ⟨v, vm₁, B, X₁.warmed, X', hpost, fun target h => hstep₁ _ fun acts => by rw [doInvoke_state]; exact hsteps.trans h⟩
theorem vx_runSW {y : MethodName} {bytes cc : ByteArray} {maxL nL mc ms n index : Nat} {ret : Option FieldType} {hh : List (Nat × Nat × Nat × Nat)} {ws : List Cond} {rm : Room} {Pc : Array Value → State → Prop} {Qc : Array Value → State → Outcome → State → Prop} {free : Addr → Prop} {Ts : List Cond} {own : String} {As rest : List Value} {g : JFrame}
    (S : CallFix p m c cc nL s args Ts own) (hM : Met l y ws rm Pc Qc mc ms free) (cw : vx_CSW R s args own index y bytes maxL ret hh ws rm mc ms n) (hp : PreS s H Pc As)
    (hg : g.method = m) (hn : As.length = n) (hsize : g.locals.size = nL) (hstack : g.stack = As.reverse ++ rest) (hW : 2 * g.monitorRoom + (rest.map fun v => v.category).sum ≤ 8) (hdg : decode cc g.pc = .ok (.invokestatic index, 3)) (hf : cells + mc ≤ R.cells ∧ slots + ms ≤ R.slots) :
    va_Run p l e R s m args below meth c H locs cells slots mc ms g rest (Qc As.toArray) (free) := by
  obtain ⟨⟨hrc, hrs, hfr, hlo, hws, hcw⟩, hcode, hini, hy, hlen, hl, hstt⟩ := cw
  have hK : Back l R p e below s args y 3 8 (PreOf R mc ms Pc) (PostOf Qc mc ms free) := va_backW (hh := hh) (bytes := bytes) (maxL := maxL) (ret := ret) hM hp.1 hrc hrs hfr hlo hws hcw (fun a' U hW => word_at hW (Or.inl (by first | rfl | simp [Cond.onTables, Cond.keeps, Cond.steady])) hini)
  obtain ⟨hx, hb, hml, ho, -⟩ := S
  intro T hT X
  obtain ⟨v, vm₁, ⟨U', l2, c2, s2⟩, hW₁, X', ⟨g', mk, t, L, e1, e2, hq, h1, hL, h2, h3⟩, st⟩ := vx_callSW X hx (hh := hh) (bytes := bytes) (maxL := maxL) (ret := ret) ho hl hstt hini hcode hy hK hg (hsize.trans hml.symm) (argsL := As) (rest := rest) (fun sig h => hn.trans (hlen sig h)) hstack hW (by rw [hb]; exact hdg)
    (fun vm₁ hW₁ => ⟨hf.1, hf.2, hp.2 (T.setVm vm₁) hT hW₁⟩)
  dsimp only [Pt.U, Pt.locs, Pt.cells, Pt.slots] at X' e1 e2 h1 h2 h3 st
  subst h1; subst h2; subst h3
  exact ⟨v, (T.setVm vm₁).calling g' mk As.toArray, t, U', L, hT, X', hL, e1, e2, hq, st⟩
/-- not caught here, past rows that name other classes: it goes on to the caller -/
theorem vx_outP {p : Program} {l : Launch} {e : Env} {R : Room} {s : State} {m : MethodId} {args : Array Value} {below : List Frame} {meth : Method} {c : Code} {H : Heap} {locs : List Loc} {cells slots : Nat} {free : Addr → Prop} {ls : Array Slot} {rest : List Value} {Qc : Array Value → State → Outcome → State → Prop} {XC : String → State → State → Prop}
    {pc : Nat} {own E : String} {ce : Cell} {q : Addr} {mc ms : Nat} (hown : s.vm.findClass own = some m.cls) (hlocks : meth.locks = false)
    (hpass : ∀ z ∈ c.exceptionTable.toList, covers z pc = false ∨ (z.catchType ≠ 0 ∧ ∃ nm : String, (Cond.classLink own z.catchType nm).before args s = true ∧ va_Nc E nm s)) (hcell : H[q]? = some ce) (hv : ce.vm = .none) (hcl : s.vm.findClass E = some ce.cls)
    (hx : ∀ t : State, t.heap = H → s.vm.Alike t.vm → XC E s t) (hf : ∀ z ∈ locs, free z.base) (hc : cells ≤ mc) (hs : slots ≤ ms) :
    vx_W p l e R s m args below meth c H locs cells slots (vx_MQ below Qc XC args s mc ms free) (F0 m pc ls rest) q := by
  intro T hT X
  have hpl : e.platform.magicAccessors = ({} : Platform).magicAccessors := by rw [X.admits.platform]
  obtain ⟨vm', hW', X', st⟩ := Jvm.Stand.outThrough X hlocks q (g := F0 m pc ls rest) rfl rfl rfl (cell := ce) (by rw [hT]; exact hcell) (by rw [hv]; rfl)
    (by obtain ⟨k9, h9, -⟩ := Vm.findClass_spec hcl; exact ⟨k9, h9⟩) (fun z hz => by
      rcases hpass z hz with h | ⟨hz0, nm, hl1, hn1⟩
      · exact Or.inl h
      · obtain ⟨c6, hc6, hcl6⟩ := Cond.classLink_spec hown hl1 e.platform hpl
        obtain ⟨a8, b8, h1, h2, h3⟩ := hn1
        cases Option.some.inj (h1.symm.trans hcl)
        cases Option.some.inj (h2.symm.trans hc6)
        exact Or.inr ⟨hz0, _, hcl6, h3⟩)
  obtain ⟨g₀, hfr⟩ := X'.frames_eq
  have hcell9 : ((T.setVm vm').setFrames (.throwing q :: below)).heap[q]? = some ce := by
    show T.heap[q]? = some ce
    rw [hT]; exact hcell
  have hend : Ended ((T.setVm vm').setFrames (.throwing q :: below)) below (.threw q) := State.frames_setFrames _ (State.cur_lt_of_frames hfr)
  refine ⟨(T.setVm vm').setFrames (.throwing q :: below), ?_, .threw q, X'.here.running, hend, Or.inr ⟨q, rfl, E, ce, locs, hx _ hT (X'.ends _).1.alike, hcell9, hv, hcl, (X'.ends _).1, (X'.ends _).2.mono hc hs, hf⟩⟩
  rw [X.pushThrowing_eq]
  exact st
/-- a thing of a world lies in the heap -/
theorem vx_lt {D : va_G} {cl : List vw_C} {ws : va_W} {H1 : Heap} (h : va_P D cl ws H1) {k : Nat} {q : Nat × va_E} (hk : ws[k]? = some q) : q.1 < H1.size := (h k q hk).lt
end VXS
/-! ===== END ===== -/
/-! ===== BEGIN methods with a table of their own: called by a name, returning or throwing ===== -/
section VXH
/-! vx_backW, vx_callVX, vx_callSX, vx_callVW, vx_runVW, vx_runVX, vx_runSX, vx_ofWH follow the same proofs as their sisters above (Free/Laws.lean, Shelf42/LK1.lean); vx_outP calls Shelf42/NT130.lean (outThrough). -/
section
variable {l : Launch} {R : Room} {p : Program} {e : Env} {below : List Frame} {s : State} {sargs : Array Value} {y : MethodName} {len W9 : Nat}
theorem vx_backW {ws : List Cond} {rm : Room} {Pc : Array Value → State → Prop} {Qc : Array Value → State → Outcome → State → Prop} {XC : String → State → State → Prop} {mc ms : Nat} {free : Addr → Prop} {bytes : ByteArray} {maxL : Nat} {ret : Option FieldType} {hh : List (Nat × Nat × Nat × Nat)}
    (hM : vx_Met l y ws rm Pc Qc XC mc ms free) (hblind : FrameBlind Pc) (hrc : rm.cells = mc) (hrs : rm.slots = ms)
    (hframes : rm.frames + 1 ≤ R.frames) (hlocals : W9 + (maxL + 11) + rm.locals ≤ R.locals)
    (hws : ∀ w ∈ ws, ∀ a' U, s.WarmedH U.vm → w.before a' U = true) (hcode : Cond.codeWith y bytes maxL ret hh ∈ ws) (hinit : ∀ a' U, s.WarmedH U.vm → (Cond.initialized y.cls).before a' U = true) :
    vx_Back l R p e below s sargs y len W9 (PreOf R mc ms Pc) (PostOf Qc mc ms free) (vx_Post XC mc ms free) := by
  intro m meth c A g ig mk a X hg hsize hdg hW hn hp
  have h1 : (headSpec ws rm).pre.before a A.U = true := atoms_intro fun w hw => hws w hw _ _ X.warmed
  have h2 : (Cond.codeWith y bytes maxL ret hh).before a A.U = true := hws _ hcode _ _ X.warmed
  have h3 : (Cond.initialized y.cls).before a A.U = true := hinit _ _ X.warmed
  have h4 : A.cells + (headSpec ws rm).room.cells ≤ R.cells := by rw [show (headSpec ws rm).room.cells = mc from hrc]; exact hp.1
  have h5 : A.slots + (headSpec ws rm).room.slots ≤ R.slots := by rw [show (headSpec ws rm).room.slots = ms from hrs]; exact hp.2.1
  have hPc : Pc a (A.U.calling g mk a) := hblind _ _ _ _ hp.2.2
  obtain ⟨U, Ls, c0, s0⟩ := A
  dsimp only [Pt.U, Pt.locs, Pt.cells, Pt.slots] at h1 h2 h3 h4 h5 X hn hPc ⊢
  obtain ⟨m9, methY, cY, hn9, hmY, hcY, -, hlY, -⟩ := Cond.codeWith_spec h2
  cases Option.some.inj (hn9.symm.trans hn)
  obtain ⟨kY, hkY, -⟩ := className_of_methodNamed hn
  have hinitY : kY.init = .initialized := Cond.initialized_spec (findClass_of_methodNamed hn) hkY h3
  have h : At U g.method c below := by rw [hg]; exact X.here
  have hlocals9 : W9 + (maxL + 11) + (headSpec ws rm).room.locals ≤ R.locals := hlocals
  have happ : (headSpec ws rm).appliesLoose y e.platform (U.calling g mk a) = true :=
    Spec.appliesLoose_calling (g := g) h hdg hn hkY hinitY
      (X.room_calling (g := g) (R' := (headSpec ws rm).room) hsize hmY hcY hframes (by rw [hlY]; omega) h4 h5) h1
  obtain ⟨mid, hmid⟩ := h.above
  have hfr : (U.setTop g).frames = (.java g :: mid) ++ below := by rw [State.frames_setTop' g h.top, hmid]; rfl
  obtain ⟨o, s₂, hsteps, -, hend, hq⟩ := Steps.callFree hM p X.admits X.cas X.clock (acts := []) hfr happ hPc trivial
  have hq' : vx_Q Qc XC mc ms free a (U.calling g mk a) o s₂ := hq
  rw [State.frames_setTop' g h.top] at hend
  obtain ⟨g₀, hg0⟩ := Option.isSome_iff_exists.mp h.top
  obtain ⟨r, hr⟩ := State.topJava?_eq_some.mp hg0
  have hr' : (({ U with heap := s₂.heap, slotsUsed := s₂.slotsUsed } : State).setVm s₂.vm).frames = .java g₀ :: r := hr
  rcases hq' with ⟨hqc, L, hfe, hL⟩ | ⟨q, rfl, E, ce, L, hx, hce, hcv, hcl, hW₂, hsm, hL⟩
  · obtain ⟨⟨v, rfl⟩, hW₂, e2, q2, q3, q4, q5, q6⟩ := id hfe
    have e3 : s₂ = ({ (U.calling g mk a).setFrames s₂.frames with heap := s₂.heap, slotsUsed := s₂.slotsUsed } : State).setVm s₂.vm := by
      have : s₂ = ({ s₂ with vm := (U.calling g mk a).vm } : State).setVm s₂.vm := rfl
      rw [e2] at this
      exact this
    obtain ⟨c₂, i₂, len₂, hc₂, hd₂, hf₂⟩ := hend
    have hW' : U.WarmedH s₂.vm := hW₂
    have hcc : c₂ = c := by
      have h1 : s₂.code? g.method = U.code? g.method := by
        rw [State.code?_eq, State.code?_eq, hW'.alike.method?]
      exact Option.some.inj (hc₂.symm.trans (h1.trans h.code))
    subst hcc
    have hlen : len₂ = len := by rw [hdg] at hd₂; cases hd₂; rfl
    subst hlen
    have hs₂ : s₂ = (({ U with heap := s₂.heap, slotsUsed := s₂.slotsUsed } : State).setVm s₂.vm).setTop { g with pc := g.pc + len₂, stack := v.toList ++ g.stack } := by
      refine e3.trans ?_
      rw [hf₂, State.calling_eq h.top, State.setFrames_setFrames, State.setTop_of_frames _ hr', hr]
      rfl
    have hsame : U.sameButNew ({ U with heap := s₂.heap, slotsUsed := s₂.slotsUsed } : State) L mc ms := by
      refine ⟨?_, q2, q3, q4, q5, q6⟩
      obtain ⟨t, ht, -⟩ := State.frames_cons hr
      show ({ U with heap := s₂.heap, slotsUsed := s₂.slotsUsed } : State) = { U.setFrames U.frames with heap := s₂.heap, slotsUsed := s₂.slotsUsed }
      rw [State.setFrames_self ht]
    subst hg
    refine Or.inl ⟨v, ⟨(({ U with heap := s₂.heap, slotsUsed := s₂.slotsUsed } : State).setVm s₂.vm), Ls ++ L, c0 + mc, s0 + ms⟩,
      ⟨X.admits, X.cas, X.clock, X.frames, X.room, X.hears, X.method, X.code, (X.here.setHeapUsed s₂.heap s₂.slotsUsed).setVm hW'.alike, X.tail, State.WarmedH.trans X.warmed hW', X.limits, X.bytes, X.same.trans (hsame.setVm s.vm)⟩,
      ⟨g, mk, s₂, L, rfl, rfl, hqc, rfl, hL, rfl, rfl⟩, ?_⟩
    show Steps p.tables e below _ ((({ U with heap := s₂.heap, slotsUsed := s₂.slotsUsed } : State).setVm s₂.vm).setTop { g with pc := g.pc + len₂, stack := v.toList ++ g.stack })
    rw [← hs₂]
    exact hsteps
  · obtain ⟨e2, q2, q3, q4, q5, q6⟩ := id hsm
    have e3 : s₂ = ({ (U.calling g mk a).setFrames s₂.frames with heap := s₂.heap, slotsUsed := s₂.slotsUsed } : State).setVm s₂.vm := by
      have : s₂ = ({ s₂ with vm := (U.calling g mk a).vm } : State).setVm s₂.vm := rfl
      rw [e2] at this
      exact this
    have hf₂ : s₂.frames = .throwing q :: .java g :: U.frames.tail := hend
    have hW' : U.WarmedH s₂.vm := hW₂
    have hs₂ : s₂ = ((({ U with heap := s₂.heap, slotsUsed := s₂.slotsUsed } : State).setVm s₂.vm).setTop g).pushFrame (.throwing q) := by
      refine e3.trans ?_
      rw [hf₂, State.calling_eq h.top, State.setFrames_setFrames, State.pushFrame, State.frames_setTop _ hr', State.setTop_of_frames _ hr', State.setFrames_setFrames, hr]
      rfl
    have hsame : U.sameButNew ({ U with heap := s₂.heap, slotsUsed := s₂.slotsUsed } : State) L mc ms := by
      refine ⟨?_, q2, q3, q4, q5, q6⟩
      obtain ⟨t, ht, -⟩ := State.frames_cons hr
      show ({ U with heap := s₂.heap, slotsUsed := s₂.slotsUsed } : State) = { U.setFrames U.frames with heap := s₂.heap, slotsUsed := s₂.slotsUsed }
      rw [State.setFrames_self ht]
    subst hg
    refine Or.inr ⟨q, ⟨(({ U with heap := s₂.heap, slotsUsed := s₂.slotsUsed } : State).setVm s₂.vm), Ls ++ L, c0 + mc, s0 + ms⟩,
      ⟨X.admits, X.cas, X.clock, X.frames, X.room, X.hears, X.method, X.code, (X.here.setHeapUsed s₂.heap s₂.slotsUsed).setVm hW'.alike, X.tail, State.WarmedH.trans X.warmed hW', X.limits, X.bytes, X.same.trans (hsame.setVm s.vm)⟩,
      ⟨g, mk, s₂, L, E, ce, rfl, rfl, hx, hce, hcv, hcl, rfl, hL, rfl, rfl⟩, ?_⟩
    show Steps p.tables e below _ (((({ U with heap := s₂.heap, slotsUsed := s₂.slotsUsed } : State).setVm s₂.vm).setTop g).pushFrame (.throwing q))
    rw [← hs₂]
    exact hsteps
end
variable {p : Program} {l : Launch} {e : Env} {R : Room} {s : State} {m : MethodId} {args : Array Value} {below : List Frame} {meth : Method} {c : Code} {T : State} {H : Heap} {locs : List Loc} {cells slots : Nat}
theorem vx_callVX (X : Stand p l e R s m args below meth c T locs cells slots) (hexec : p.tables.exec = Jvm.exec) {own C : String} {index : Nat} {y : MethodName} {bytes : ByteArray} {maxL : Nat} {ret : Option FieldType} {hh : List (Nat × Nat × Nat × Nat)}
    (hown : s.vm.findClass own = some m.cls) (hlink : (Cond.methodLink own index y).before args s = true) (hinst : (Cond.instanceMethod y).before args s = true) (hsel : (Cond.selects C y y).before args s = true)
    (hcode : (Cond.codeWith y bytes maxL ret hh).before args s = true) (hy : y.cls ≠ "java/lang/invoke/MethodHandle" ∧ y.cls ≠ "java/lang/invoke/VarHandle")
    {W9 : Nat} {Pre : Pt → Array Value → Prop} {Post : Pt → Array Value → Option Value → Pt → Prop} {PostX : Pt → Array Value → Addr → Pt → Prop} (hK : vx_Back l R p e below s args y 3 W9 Pre Post PostX)
    {b : Addr} {cellB : Cell} (hcell : T.heap[b]? = some cellB) (hobj : cellB.vm.isStatics = false) (hcls : s.vm.findClass C = some cellB.cls)
    {g : JFrame} (hg : g.method = m) (hsize : g.locals.size = c.maxLocals) {argsL rest : List Value} (hlen : ∀ sig, parseMethodDescriptor y.desc = some sig → argsL.length = sig.parameters.length)
    (hstack : g.stack = argsL.reverse ++ .ref b :: rest) (hW : 2 * g.monitorRoom + (rest.map fun v => v.category).sum ≤ W9) (hdg : decode c.code g.pc = .ok (.invokevirtual index, 3))
    (hpre : ∀ vm₁, s.WarmedH vm₁ → Pre ⟨T.setVm vm₁, locs, cells, slots⟩ (Value.ref b :: argsL).toArray) :
    (∃ (v : Option Value) (vm₁ : Vm) (B : Pt), s.WarmedH vm₁ ∧ Stand p l e R s m args below meth c B.U B.locs B.cells B.slots ∧ Post ⟨T.setVm vm₁, locs, cells, slots⟩ (Value.ref b :: argsL).toArray v B ∧
      ∀ target, Steps p.tables e below (B.U.setTop { g with pc := g.pc + 3, stack := v.toList ++ rest }) target → Steps p.tables e below (T.setTop g) target) ∨
    (∃ (q : Addr) (vm₁ : Vm) (B : Pt), s.WarmedH vm₁ ∧ Stand p l e R s m args below meth c B.U B.locs B.cells B.slots ∧ PostX ⟨T.setVm vm₁, locs, cells, slots⟩ (Value.ref b :: argsL).toArray q B ∧
      Steps p.tables e below (T.setTop g) ((B.U.setTop { g with stack := rest }).pushFrame (.throwing q))) := by
  obtain ⟨mk, methM, hnamed, hmethM, hstM, habM⟩ := Cond.instanceMethod_spec hinst
  obtain ⟨m8, methM', cM, hn8, hmethM', -, -, -, -, -, -, hsigM⟩ := Cond.codeWith_spec hcode
  cases Option.some.inj (hn8.symm.trans hnamed)
  cases hmethM.symm.trans hmethM'
  obtain ⟨c2, r2, m2, q1, q2, q3, q4, kP, hkP, hkPi⟩ := Cond.selects_spec hsel
  cases hcls.symm.trans q1
  cases (State.methodFound?_of_named hnamed hy).symm.trans q2
  cases hnamed.symm.trans q3
  have hselP : selectMethod e.platform s.vm cellB.cls mk = .method mk := by rw [Launch.admits_selectMethod X.admits]; exact q4
  obtain ⟨vm₁, X₁, hstep₁⟩ := X.invokevirtual hexec hown hlink hnamed hmethM hstM hkP hkPi hy (a := b) (cell := cellB) hcell
    (fun z h => by rw [h] at hobj; cases hobj) hselP hmethM habM hkP hkPi (g := g) hg (argsL := argsL) (rest := rest) (hlen _ hsigM) hstack hdg
  rcases hK m meth c ⟨T.setVm vm₁, locs, cells, slots⟩ { g with stack := rest } (.invokevirtual index) mk (Value.ref b :: argsL).toArray X₁ hg hsize hdg hW (X₁.named hnamed) (hpre vm₁ X₁.warmed) with ⟨v, B, X', hpost, hsteps⟩ | ⟨q, B, X', hpost, hsteps⟩
  · exact Or.inl ⟨v, vm₁, B, X₁.warmed, X', hpost, fun target h => hstep₁ _ fun acts => by rw [doInvoke_state]; exact hsteps.trans h⟩
  · exact Or.inr ⟨q, vm₁, B, X₁.warmed, X', hpost, hstep₁ _ fun acts => by rw [doInvoke_state]; exact hsteps⟩
theorem vx_callSX (X : Stand p l e R s m args below meth c T locs cells slots) (hexec : p.tables.exec = Jvm.exec) {own : String} {index : Nat} {y : MethodName} {bytes : ByteArray} {maxL : Nat} {ret : Option FieldType} {hh : List (Nat × Nat × Nat × Nat)}
    (hown : s.vm.findClass own = some m.cls) (hlink : (Cond.methodLink own index y).before args s = true) (hstat : (Cond.static y).before args s = true) (hinit : (Cond.initialized y.cls).before args s = true)
    (hcode : (Cond.codeWith y bytes maxL ret hh).before args s = true) (hy : y.cls ≠ "java/lang/invoke/MethodHandle" ∧ y.cls ≠ "java/lang/invoke/VarHandle")
    {W9 : Nat} {Pre : Pt → Array Value → Prop} {Post : Pt → Array Value → Option Value → Pt → Prop} {PostX : Pt → Array Value → Addr → Pt → Prop} (hK : vx_Back l R p e below s args y 3 W9 Pre Post PostX)
    {g : JFrame} (hg : g.method = m) (hsize : g.locals.size = c.maxLocals) {argsL rest : List Value} (hlen : ∀ sig, parseMethodDescriptor y.desc = some sig → argsL.length = sig.parameters.length)
    (hstack : g.stack = argsL.reverse ++ rest) (hW : 2 * g.monitorRoom + (rest.map fun v => v.category).sum ≤ W9) (hdg : decode c.code g.pc = .ok (.invokestatic index, 3))
    (hpre : ∀ vm₁, s.WarmedH vm₁ → Pre ⟨T.setVm vm₁, locs, cells, slots⟩ argsL.toArray) :
    (∃ (v : Option Value) (vm₁ : Vm) (B : Pt), s.WarmedH vm₁ ∧ Stand p l e R s m args below meth c B.U B.locs B.cells B.slots ∧ Post ⟨T.setVm vm₁, locs, cells, slots⟩ argsL.toArray v B ∧
      ∀ target, Steps p.tables e below (B.U.setTop { g with pc := g.pc + 3, stack := v.toList ++ rest }) target → Steps p.tables e below (T.setTop g) target) ∨
    (∃ (q : Addr) (vm₁ : Vm) (B : Pt), s.WarmedH vm₁ ∧ Stand p l e R s m args below meth c B.U B.locs B.cells B.slots ∧ PostX ⟨T.setVm vm₁, locs, cells, slots⟩ argsL.toArray q B ∧
      Steps p.tables e below (T.setTop g) ((B.U.setTop { g with stack := rest }).pushFrame (.throwing q))) := by
  obtain ⟨mk, methM, cM, hnamed, hmethM, -, -, -, -, -, -, hsigM⟩ := Cond.codeWith_spec hcode
  have hstatic : methM.isStatic = true := Cond.static_spec hnamed hmethM hstat
  obtain ⟨kP, hkP, -⟩ := className_of_methodNamed hnamed
  have hinitP : kP.init = .initialized := Cond.initialized_spec (findClass_of_methodNamed hnamed) hkP hinit
  obtain ⟨vm₁, X₁, hstep₁⟩ := X.invokestatic hexec hown hlink hnamed hmethM hstatic hkP hinitP hy (g := g) hg (argsL := argsL) (rest := rest) (hlen _ hsigM) hstack hdg
  rcases hK m meth c ⟨T.setVm vm₁, locs, cells, slots⟩ { g with stack := rest } (.invokestatic index) mk argsL.toArray X₁ hg hsize hdg hW (X₁.named hnamed) (hpre vm₁ X₁.warmed) with ⟨v, B, X', hpost, hsteps⟩ | ⟨q, B, X', hpost, hsteps⟩
  · exact Or.inl ⟨v, vm₁, B, X₁.warmed, X', hpost, fun target h => hstep₁ _ fun acts => by rw [doInvoke_state]; exact hsteps.trans h⟩
  · exact Or.inr ⟨q, vm₁, B, X₁.warmed, X', hpost, hstep₁ _ fun acts => by rw [doInvoke_state]; exact hsteps⟩
theorem vx_callVW (X : Stand p l e R s m args below meth c T locs cells slots) (hexec : p.tables.exec = Jvm.exec) {own C : String} {index : Nat} {y : MethodName} {bytes : ByteArray} {maxL : Nat} {ret : Option FieldType} {hh : List (Nat × Nat × Nat × Nat)}
    (hown : s.vm.findClass own = some m.cls) (hlink : (Cond.methodLink own index y).before args s = true) (hinst : (Cond.instanceMethod y).before args s = true) (hsel : (Cond.selects C y y).before args s = true)
    (hcode : (Cond.codeWith y bytes maxL ret hh).before args s = true) (hy : y.cls ≠ "java/lang/invoke/MethodHandle" ∧ y.cls ≠ "java/lang/invoke/VarHandle")
    {W9 : Nat} {Pre : Pt → Array Value → Prop} {Post : Pt → Array Value → Option Value → Pt → Prop} (hK : Back l R p e below s args y 3 W9 Pre Post)
    {b : Addr} {cellB : Cell} (hcell : T.heap[b]? = some cellB) (hobj : cellB.vm.isStatics = false) (hcls : s.vm.findClass C = some cellB.cls)
    {g : JFrame} (hg : g.method = m) (hsize : g.locals.size = c.maxLocals) {argsL rest : List Value} (hlen : ∀ sig, parseMethodDescriptor y.desc = some sig → argsL.length = sig.parameters.length)
    (hstack : g.stack = argsL.reverse ++ .ref b :: rest) (hW : 2 * g.monitorRoom + (rest.map fun v => v.category).sum ≤ W9) (hdg : decode c.code g.pc = .ok (.invokevirtual index, 3))
    (hpre : ∀ vm₁, s.WarmedH vm₁ → Pre ⟨T.setVm vm₁, locs, cells, slots⟩ (Value.ref b :: argsL).toArray) :
    ∃ (v : Option Value) (vm₁ : Vm) (B : Pt), s.WarmedH vm₁ ∧ Stand p l e R s m args below meth c B.U B.locs B.cells B.slots ∧ Post ⟨T.setVm vm₁, locs, cells, slots⟩ (Value.ref b :: argsL).toArray v B ∧
      ∀ target, Steps p.tables e below (B.U.setTop { g with pc := g.pc + 3, stack := v.toList ++ rest }) target → Steps p.tables e below (T.setTop g) target := by
  obtain ⟨mk, methM, hnamed, hmethM, hstM, habM⟩ := Cond.instanceMethod_spec hinst
  obtain ⟨m8, methM', cM, hn8, hmethM', -, -, -, -, -, -, hsigM⟩ := Cond.codeWith_spec hcode
  cases Option.some.inj (hn8.symm.trans hnamed)
  cases hmethM.symm.trans hmethM'
  obtain ⟨c2, r2, m2, q1, q2, q3, q4, kP, hkP, hkPi⟩ := Cond.selects_spec hsel
  cases hcls.symm.trans q1
  cases (State.methodFound?_of_named hnamed hy).symm.trans q2
  cases hnamed.symm.trans q3
  have hselP : selectMethod e.platform s.vm cellB.cls mk = .method mk := by rw [Launch.admits_selectMethod X.admits]; exact q4
  obtain ⟨vm₁, X₁, hstep₁⟩ := X.invokevirtual hexec hown hlink hnamed hmethM hstM hkP hkPi hy (a := b) (cell := cellB) hcell
    (fun z h => by rw [h] at hobj; cases hobj) hselP hmethM habM hkP hkPi (g := g) hg (argsL := argsL) (rest := rest) (hlen _ hsigM) hstack hdg
  obtain ⟨v, B, X', hpost, hsteps⟩ := hK m meth c ⟨T.setVm vm₁, locs, cells, slots⟩ { g with stack := rest } (.invokevirtual index) mk (Value.ref b :: argsL).toArray X₁ hg hsize hdg hW (X₁.named hnamed) (hpre vm₁ X₁.warmed)
  exact ⟨v, vm₁, B, X₁.warmed, X', hpost, fun target h => hstep₁ _ fun acts => by rw [doInvoke_state]; exact hsteps.trans h⟩
abbrev vx_CVW (R : Room) (s : State) (args : Array Value) (own C : String) (index : Nat) (y : MethodName) (bytes : ByteArray) (maxL : Nat) (ret : Option FieldType) (hh : List (Nat × Nat × Nat × Nat)) (ws : List Cond) (rm : Room) (mc ms n : Nat) : Prop :=
  (rm.cells = mc ∧ rm.slots = ms ∧ rm.frames + 1 ≤ R.frames ∧ 8 + (maxL + 11) + rm.locals ≤ R.locals ∧ (∀ w ∈ ws, ∀ (a' : Array Value) (U : State), s.WarmedH U.vm → w.before a' U = true) ∧ Cond.codeWith y bytes maxL ret hh ∈ ws) ∧
  (Cond.codeWith y bytes maxL ret hh).before args s = true ∧ (Cond.initialized y.cls).before args s = true ∧ (y.cls ≠ "java/lang/invoke/MethodHandle" ∧ y.cls ≠ "java/lang/invoke/VarHandle") ∧
  (∀ sig, parseMethodDescriptor y.desc = some sig → n = sig.parameters.length) ∧ (Cond.methodLink own index y).before args s = true ∧ (Cond.instanceMethod y).before args s = true ∧ (Cond.selects C y y).before args s = true
theorem vx_cwVW {own C : String} {index maxL mc ms : Nat} {y : MethodName} {bytes : ByteArray} {ret : Option FieldType} {hh : List (Nat × Nat × Nat × Nat)} {Ts ws ws' : List Cond} {rm : Room} (n : Nat) (ht : ∀ w ∈ Ts, w.before args s = true) (hT : GoodIn Ts (wsV own index C y ws)) (hw : ws = Cond.codeWith y bytes maxL ret hh :: ws') (hrc : rm.cells = mc) (hrs : rm.slots = ms)
    (hd : y.cls = C ∧ y.cls ≠ "java/lang/invoke/MethodHandle" ∧ y.cls ≠ "java/lang/invoke/VarHandle" ∧ (parseMethodDescriptor y.desc).map (fun d => d.parameters.length) = some n) (hR : rm.frames + 1 ≤ R.frames ∧ 8 + (maxL + 11) + rm.locals ≤ R.locals) :
    vx_CVW R s args own C index y bytes maxL ret hh ws rm mc ms n := by
  obtain ⟨hC, hd⟩ := hd
  subst hC
  have ok : ∀ w ∈ wsV own index y.cls y ws, w.before args s = true := fun w h => ht w (hT w h).1
  have hG : GoodIn Ts ws := fun w h => hT w (by unfold wsV; exact List.mem_append_right _ h)
  have hc : Cond.codeWith y bytes maxL ret hh ∈ ws := by rw [hw]; exact List.mem_cons_self
  refine ⟨⟨hrc, hrs, hR.1, hR.2, pay_in ht hG, hc⟩, ht _ (hG _ hc).1, ok _ (by simp [wsV]), ⟨hd.1, hd.2.1⟩, fun sig h => ?_, ok _ (by simp [wsV]), ok _ (by simp [wsV]), ok _ (by simp [wsV])⟩
  have h2 := hd.2.2
  rw [h] at h2
  exact (Option.some.inj h2).symm
theorem vx_runVW {y : MethodName} {bytes cc : ByteArray} {maxL nL mc ms n index : Nat} {ret : Option FieldType} {hh : List (Nat × Nat × Nat × Nat)} {ws : List Cond} {rm : Room} {Pc : Array Value → State → Prop} {Qc : Array Value → State → Outcome → State → Prop} {free : Addr → Prop} {Ts : List Cond} {own C : String} {b : Addr} {As rest : List Value} {g : JFrame}
    (S : CallFix p m c cc nL s args Ts own) (hM : Met l y ws rm Pc Qc mc ms free) (cw : vx_CVW R s args own C index y bytes maxL ret hh ws rm mc ms n) (hp : PreV s H C b Pc As)
    (hg : g.method = m) (hn : As.length = n) (hsize : g.locals.size = nL) (hstack : g.stack = As.reverse ++ .ref b :: rest) (hW : 2 * g.monitorRoom + (rest.map fun v => v.category).sum ≤ 8) (hdg : decode cc g.pc = .ok (.invokevirtual index, 3)) (hf : cells + mc ≤ R.cells ∧ slots + ms ≤ R.slots) :
    va_Run p l e R s m args below meth c H locs cells slots mc ms g rest (Qc (Value.ref b :: As).toArray) free := by
  obtain ⟨⟨hrc, hrs, hfr, hlo, hws, hcw⟩, hcode, hini, hy, hlen, hl, hin, hse⟩ := cw
  have hK : Back l R p e below s args y 3 8 (PreOf R mc ms Pc) (PostOf Qc mc ms free) := va_backW (hh := hh) (bytes := bytes) (maxL := maxL) (ret := ret) hM hp.1 hrc hrs hfr hlo hws hcw (fun a' U hW => word_at hW (Or.inl (by first | rfl | simp [Cond.onTables, Cond.keeps, Cond.steady])) hini)
  obtain ⟨hx, hb, hml, ho, -⟩ := S
  obtain ⟨-, ⟨cellB, hcB, hoB, hclB⟩, hPc⟩ := hp
  intro T hT X
  obtain ⟨v, vm₁, ⟨U', l2, c2, s2⟩, hW₁, X', ⟨g', mk, t, L, e1, e2, hq, h1, hL, h2, h3⟩, st⟩ := vx_callVW X hx (C := C) (hh := hh) (bytes := bytes) (maxL := maxL) (ret := ret) ho hl hin hse hcode hy hK (by rw [hT]; exact hcB) hoB hclB hg (hsize.trans hml.symm) (argsL := As) (rest := rest) (fun sig h => hn.trans (hlen sig h)) hstack hW (by rw [hb]; exact hdg)
    (fun vm₁ hW₁ => ⟨hf.1, hf.2, hPc (T.setVm vm₁) hT hW₁⟩)
  dsimp only [Pt.U, Pt.locs, Pt.cells, Pt.slots] at X' e1 e2 h1 h2 h3 st
  subst h1; subst h2; subst h3
  exact ⟨v, (T.setVm vm₁).calling g' mk (Value.ref b :: As).toArray, t, U', L, hT, X', hL, e1, e2, hq, st⟩
section
variable {y : MethodName} {bytes cc : ByteArray} {maxL nL mc ms n index : Nat} {ret : Option FieldType} {ws : List Cond} {rm : Room} {Pc : Array Value → State → Prop} {Qc : Array Value → State → Outcome → State → Prop} {XC : String → State → State → Prop} {free : Addr → Prop} {Ts : List Cond} {own C : String} {b : Addr} {As rest : List Value} {g : JFrame}
theorem vx_runVX {hh : List (Nat × Nat × Nat × Nat)} (S : CallFix p m c cc nL s args Ts own) (hM : vx_Met l y ws rm Pc Qc XC mc ms free) (cw : vx_CVW R s args own C index y bytes maxL ret hh ws rm mc ms n) (hp : PreV s H C b Pc As)
    (hg : g.method = m) (hn : As.length = n) (hsize : g.locals.size = nL) (hstack : g.stack = As.reverse ++ .ref b :: rest) (hW : 2 * g.monitorRoom + (rest.map fun v => v.category).sum ≤ 8) (hdg : decode cc g.pc = .ok (.invokevirtual index, 3)) (hf : cells + mc ≤ R.cells ∧ slots + ms ≤ R.slots) :
    vx_Run p l e R s m args below meth c H locs cells slots mc ms g rest (Qc (Value.ref b :: As).toArray) XC free := by
  obtain ⟨⟨hrc, hrs, hfr, hlo, hws, hcw⟩, hcode, hini, hy, hlen, hl, hin, hse⟩ := cw
  have hK : vx_Back l R p e below s args y 3 8 (PreOf R mc ms Pc) (PostOf Qc mc ms free) (vx_Post XC mc ms free) := vx_backW (hh := hh) (bytes := bytes) (maxL := maxL) (ret := ret) hM hp.1 hrc hrs hfr hlo hws hcw (fun a' U hW => word_at hW (Or.inl (by first | rfl | simp [Cond.onTables, Cond.keeps, Cond.steady])) hini)
  obtain ⟨hx, hb, hml, ho, -⟩ := S
  obtain ⟨-, ⟨cellB, hcB, hoB, hclB⟩, hPc⟩ := hp
  intro T hT X
  rcases vx_callVX X hx (C := C) (hh := hh) (bytes := bytes) (maxL := maxL) (ret := ret) ho hl hin hse hcode hy hK (by rw [hT]; exact hcB) hoB hclB hg (hsize.trans hml.symm) (argsL := As) (rest := rest) (fun sig h => hn.trans (hlen sig h)) hstack hW (by rw [hb]; exact hdg)
    (fun vm₁ hW₁ => ⟨hf.1, hf.2, hPc (T.setVm vm₁) hT hW₁⟩) with ⟨v, vm₁, ⟨U', l2, c2, s2⟩, hW₁, X', ⟨g', mk, t, L, e1, e2, hq, h1, hL, h2, h3⟩, st⟩ | ⟨q, vm₁, ⟨U', l2, c2, s2⟩, hW₁, X', ⟨g', mk, t, L, E, ce, e1, e2, hq, hce, hcv, hcl, h1, hL, h2, h3⟩, st⟩
  · dsimp only [Pt.U, Pt.locs, Pt.cells, Pt.slots] at X' e1 e2 h1 h2 h3 st
    subst h1; subst h2; subst h3
    exact Or.inl ⟨v, (T.setVm vm₁).calling g' mk (Value.ref b :: As).toArray, t, U', L, hT, X', hL, e1, e2, hq, st⟩
  · dsimp only [Pt.U, Pt.locs, Pt.cells, Pt.slots] at X' e1 e2 h1 h2 h3 st hcl
    subst h1; subst h2; subst h3
    exact Or.inr ⟨q, (T.setVm vm₁).calling g' mk (Value.ref b :: As).toArray, t, U', L, E, ce, hT, X', hL, e1, e2, hq, hce, hcv, vx_cls hW₁ hcl, st⟩
theorem vx_runSX {hh : List (Nat × Nat × Nat × Nat)} (S : CallFix p m c cc nL s args Ts own) (hM : vx_Met l y ws rm Pc Qc XC mc ms free) (cw : vx_CSW R s args own index y bytes maxL ret hh ws rm mc ms n) (hp : PreS s H Pc As)
    (hg : g.method = m) (hn : As.length = n) (hsize : g.locals.size = nL) (hstack : g.stack = As.reverse ++ rest) (hW : 2 * g.monitorRoom + (rest.map fun v => v.category).sum ≤ 8) (hdg : decode cc g.pc = .ok (.invokestatic index, 3)) (hf : cells + mc ≤ R.cells ∧ slots + ms ≤ R.slots) :
    vx_Run p l e R s m args below meth c H locs cells slots mc ms g rest (Qc As.toArray) XC free := by
  obtain ⟨⟨hrc, hrs, hfr, hlo, hws, hcw⟩, hcode, hini, hy, hlen, hl, hstt⟩ := cw
  have hK : vx_Back l R p e below s args y 3 8 (PreOf R mc ms Pc) (PostOf Qc mc ms free) (vx_Post XC mc ms free) := vx_backW (hh := hh) (bytes := bytes) (maxL := maxL) (ret := ret) hM hp.1 hrc hrs hfr hlo hws hcw (fun a' U hW => word_at hW (Or.inl (by first | rfl | simp [Cond.onTables, Cond.keeps, Cond.steady])) hini)
  obtain ⟨hx, hb, hml, ho, -⟩ := S
  intro T hT X
  rcases vx_callSX X hx (hh := hh) (bytes := bytes) (maxL := maxL) (ret := ret) ho hl hstt hini hcode hy hK hg (hsize.trans hml.symm) (argsL := As) (rest := rest) (fun sig h => hn.trans (hlen sig h)) hstack hW (by rw [hb]; exact hdg)
    (fun vm₁ hW₁ => ⟨hf.1, hf.2, hp.2 (T.setVm vm₁) hT hW₁⟩) with ⟨v, vm₁, ⟨U', l2, c2, s2⟩, hW₁, X', ⟨g', mk, t, L, e1, e2, hq, h1, hL, h2, h3⟩, st⟩ | ⟨q, vm₁, ⟨U', l2, c2, s2⟩, hW₁, X', ⟨g', mk, t, L, E, ce, e1, e2, hq, hce, hcv, hcl, h1, hL, h2, h3⟩, st⟩
  · dsimp only [Pt.U, Pt.locs, Pt.cells, Pt.slots] at X' e1 e2 h1 h2 h3 st
    subst h1; subst h2; subst h3
    exact Or.inl ⟨v, (T.setVm vm₁).calling g' mk As.toArray, t, U', L, hT, X', hL, e1, e2, hq, st⟩
  · dsimp only [Pt.U, Pt.locs, Pt.cells, Pt.slots] at X' e1 e2 h1 h2 h3 st hcl
    subst h1; subst h2; subst h3
    exact Or.inr ⟨q, (T.setVm vm₁).calling g' mk As.toArray, t, U', L, E, ce, hT, X', hL, e1, e2, hq, hce, hcv, vx_cls hW₁ hcl, st⟩
end
end VXH
theorem vx_ofWH {l : Launch} {y : MethodName} {ws ws' : List Cond} {rm : Room} {Pc : Array Value → State → Prop} {Qc : Array Value → State → Outcome → State → Prop} {XC : String → State → State → Prop} {mc ms : Nat} {free : Addr → Prop} {cc : ByteArray} {maxL : Nat} {ret : Option FieldType} {hh : List (Nat × Nat × Nat × Nat)}
    (hy : plainName y.cls = true) (hw : ws = Cond.codeWith y cc maxL ret hh :: ws')
    (body : ∀ p e s m args below meth c s₁, BodyLoose p l y (headSpec ws rm) cc maxL ret e s m args below meth c s₁ → c.maxLocals = maxL → Pc args s →
      W p l e (headSpec ws rm).room s m args below meth c s.heap [] 0 0 (vx_MQ below Qc XC args s mc ms free) (entryFrame m args maxL)) : vx_Met l y ws rm Pc Qc XC mc ms free := by
  refine MetFree.of_bodyS (code := cc) (maxLocals := maxL) (ret := ret) hy ?_ ?_
  · intro args s m h hn
    obtain ⟨m9, meth, c, hn9, h1, h2, h3, h4, -, h5, h6, -⟩ := Cond.codeWith_spec (atoms_spec (ws := ws) h _ (by rw [hw]; exact List.mem_cons_self))
    cases hn.symm.trans hn9
    exact ⟨meth, c, h1, h2, h3, h4, h5, h6⟩
  · intro p e s m args below meth c s₁ B hml hP _
    have hh0 : s₁.heap = s.heap := by rw [B.state]; rfl
    obtain ⟨t, a1, o, b1, b2, b3⟩ := body p e s m args below meth c s₁ B hml hP s₁ hh0 (Stand.of_body B)
    exact ⟨t, o, a1, b1, b2, b3⟩
/-! ===== END ===== -/
end
section
def RX0 : String := "StatementRules2$Code"
def TX0 : u_T := fun k => match k with
  | 0 => ("StatementRules2$Code", "ops", "[I", true)
  | 1 => ("StatementRules2$Code", "arguments", "[I", true)
  | 2 => ("StatementRules2$Code", "targets", "[I", true)
  | 3 => ("StatementRules2$Code", "caseValues", "[I", true)
  | 4 => ("StatementRules2$Code", "caseTargets", "[I", true)
  | 5 => ("StatementRules2$Code", "size", "I", false)
  | 6 => ("StatementRules2$Code", "targetCount", "I", false)
  | 7 => ("StatementRules2$Code", "caseCount", "I", false)
  | 8 => ("StatementRules2$Code", "cellCount", "I", false)
  | 9 => ("StatementRules2$Code", "statements", "I", false)
  | 10 => ("StatementRules2$Code", "toldNames", "I", false)
  | 11 => ("StatementRules2$Code", "jumps", "I", false)
  | _ => ("StatementRules2$Code", "endReached", "Z", false)
def tyX0 : Nat → FieldType := fun k => match k with
  | 0 => .array .int
  | 1 => .array .int
  | 2 => .array .int
  | 3 => .array .int
  | 4 => .array .int
  | 5 => .int
  | 6 => .int
  | 7 => .int
  | 8 => .int
  | 9 => .int
  | 10 => .int
  | 11 => .int
  | _ => .boolean
abbrev wsX00 : List Cond := u_ws RX0 TX0 13
theorem nmX0 : ∀ a, a < 13 → ∀ b, b < 13 → a ≠ b → (TX0 a).2.1 ≠ (TX0 b).2.1 := by decide +kernel
theorem tyX0_ok : ∀ k, k < 13 → parseFieldDescriptor (TX0 k).2.2.1 = some (tyX0 k) := by decide +kernel
abbrev cX0_init : ByteArray := prog_2_method_1_code
def yX0_init : MethodName := ⟨RX0, "<init>", "()V"⟩
abbrev cX0_clear : ByteArray := prog_2_method_2_code
def yX0_clear : MethodName := ⟨RX0, "clear", "()V"⟩
abbrev cX0_add : ByteArray := prog_2_method_3_code
def yX0_add : MethodName := ⟨RX0, "add", "(II)V"⟩
abbrev cX0_newTarget : ByteArray := prog_2_method_4_code
def yX0_newTarget : MethodName := ⟨RX0, "newTarget", "()I"⟩
abbrev cX0_aim : ByteArray := prog_2_method_5_code
def yX0_aim : MethodName := ⟨RX0, "aim", "(I)V"⟩
abbrev cX0_newCells : ByteArray := prog_2_method_6_code
def yX0_newCells : MethodName := ⟨RX0, "newCells", "(I)I"⟩
abbrev cX0_hasCase : ByteArray := prog_2_method_7_code
def yX0_hasCase : MethodName := ⟨RX0, "hasCase", "(II)Z"⟩
abbrev cX0_addCase : ByteArray := prog_2_method_8_code
def yX0_addCase : MethodName := ⟨RX0, "addCase", "(II)V"⟩
abbrev cX0_addCases : ByteArray := prog_2_method_9_code
def yX0_addCases : MethodName := ⟨RX0, "addCases", "(II)V"⟩
def RX1 : String := "StatementRules2$Formulas"
def TX1 : u_T := fun k => match k with
  | _ => ("", "", "", false)
def tyX1 : Nat → FieldType := fun k => match k with
  | _ => .int
abbrev wsX10 : List Cond := u_ws RX1 TX1 0
theorem nmX1 : ∀ a, a < 0 → ∀ b, b < 0 → a ≠ b → (TX1 a).2.1 ≠ (TX1 b).2.1 := by decide +kernel
theorem tyX1_ok : ∀ k, k < 0 → parseFieldDescriptor (TX1 k).2.2.1 = some (tyX1 k) := by decide +kernel
abbrev cX1_init : ByteArray := prog_3_method_1_code
def yX1_init : MethodName := ⟨RX1, "<init>", "(LStatementRules2$Tokens;LStatementRules2$Code;LStatementRules2$Told;)V"⟩
abbrev cX1_fail : ByteArray := prog_3_method_3_code
def yX1_fail : MethodName := ⟨RX1, "fail", "(II)V"⟩
abbrev cX1_misplaced : ByteArray := prog_3_method_4_code
def yX1_misplaced : MethodName := ⟨RX1, "misplaced", "()V"⟩
abbrev cX1_found : ByteArray := prog_3_method_5_code
def yX1_found : MethodName := ⟨RX1, "found", "(I)Z"⟩
abbrev cX1_skip : ByteArray := prog_3_method_6_code
def yX1_skip : MethodName := ⟨RX1, "skip", "(I)Z"⟩
abbrev cX1_expect : ByteArray := prog_3_method_7_code
def yX1_expect : MethodName := ⟨RX1, "expect", "(I)V"⟩
abbrev cX1_open : ByteArray := prog_3_method_8_code
def yX1_open : MethodName := ⟨RX1, "open", "(I)V"⟩
abbrev cX1_close : ByteArray := prog_3_method_9_code
def yX1_close : MethodName := ⟨RX1, "close", "(I)V"⟩
abbrev cX1_expression : ByteArray := prog_3_method_10_code
def yX1_expression : MethodName := ⟨RX1, "expression", "()V"⟩
abbrev cX1_product : ByteArray := prog_3_method_11_code
def yX1_product : MethodName := ⟨RX1, "product", "()V"⟩
abbrev cX1_factor : ByteArray := prog_3_method_12_code
def yX1_factor : MethodName := ⟨RX1, "factor", "()V"⟩
abbrev cX1_loadName : ByteArray := prog_3_method_13_code
def yX1_loadName : MethodName := ⟨RX1, "loadName", "()V"⟩
abbrev cX1_negated : ByteArray := prog_3_method_14_code
def yX1_negated : MethodName := ⟨RX1, "negated", "()V"⟩
abbrev cX1_choice : ByteArray := prog_3_method_15_code
def yX1_choice : MethodName := ⟨RX1, "choice", "()V"⟩
abbrev cX1_arm : ByteArray := prog_3_method_16_code
def yX1_arm : MethodName := ⟨RX1, "arm", "(III)I"⟩
abbrev cX1_caseNumber : ByteArray := prog_3_method_17_code
def yX1_caseNumber : MethodName := ⟨RX1, "caseNumber", "(II)V"⟩
abbrev cX1_condition : ByteArray := prog_3_method_18_code
def yX1_condition : MethodName := ⟨RX1, "condition", "()Z"⟩
abbrev cX1_conjunction : ByteArray := prog_3_method_19_code
def yX1_conjunction : MethodName := ⟨RX1, "conjunction", "()Z"⟩
abbrev cX1_one : ByteArray := prog_3_method_20_code
def yX1_one : MethodName := ⟨RX1, "one", "()Z"⟩
abbrev cX1_comparison : ByteArray := prog_3_method_21_code
def yX1_comparison : MethodName := ⟨RX1, "comparison", "()V"⟩
abbrev cX1_comparing : ByteArray := prog_3_method_22_code
def yX1_comparing : MethodName := ⟨RX1, "comparing", "(I)I"⟩
def RX2 : String := "StatementRules2$Frame"
def TX2 : u_T := fun k => match k with
  | 0 => ("StatementRules2$Frame", "phase", "I", false)
  | 1 => ("StatementRules2$Frame", "argument", "I", false)
  | 2 => ("StatementRules2$Frame", "height", "I", false)
  | 3 => ("StatementRules2$Frame", "openedBefore", "I", false)
  | 4 => ("StatementRules2$Frame", "thrown", "LStatementRules2$Thrown;", false)
  | 5 => ("StatementRules2$Frame", "way", "I", false)
  | 6 => ("StatementRules2$Frame", "wayValue", "I", false)
  | _ => ("StatementRules2$Frame", "wayTarget", "I", false)
def tyX2 : Nat → FieldType := fun k => match k with
  | 0 => .int
  | 1 => .int
  | 2 => .int
  | 3 => .int
  | 4 => .object "StatementRules2$Thrown"
  | 5 => .int
  | 6 => .int
  | _ => .int
abbrev wsX20 : List Cond := u_ws RX2 TX2 8
theorem nmX2 : ∀ a, a < 8 → ∀ b, b < 8 → a ≠ b → (TX2 a).2.1 ≠ (TX2 b).2.1 := by decide +kernel
theorem tyX2_ok : ∀ k, k < 8 → parseFieldDescriptor (TX2 k).2.2.1 = some (tyX2 k) := by decide +kernel
abbrev cX2_init : ByteArray := prog_4_method_1_code
def yX2_init : MethodName := ⟨RX2, "<init>", "()V"⟩
def RX3 : String := "StatementRules2$Machine"
def TX3 : u_T := fun k => match k with
  | 0 => ("StatementRules2$Machine", "told", "LStatementRules2$Told;", true)
  | 1 => ("StatementRules2$Machine", "code", "LStatementRules2$Code;", true)
  | 2 => ("StatementRules2$Machine", "cells", "[I", true)
  | 3 => ("StatementRules2$Machine", "values", "[I", true)
  | 4 => ("StatementRules2$Machine", "frames", "[LStatementRules2$Frame;", true)
  | 5 => ("StatementRules2$Machine", "pool", "[LStatementRules2$Thrown;", true)
  | 6 => ("StatementRules2$Machine", "opened", "[I", true)
  | 7 => ("StatementRules2$Machine", "rows", "[I", true)
  | 8 => ("StatementRules2$Machine", "height", "I", false)
  | 9 => ("StatementRules2$Machine", "place", "I", false)
  | 10 => ("StatementRules2$Machine", "depth", "I", false)
  | 11 => ("StatementRules2$Machine", "openedCount", "I", false)
  | 12 => ("StatementRules2$Machine", "rowCount", "I", false)
  | 13 => ("StatementRules2$Machine", "steps", "I", false)
  | 14 => ("StatementRules2$Machine", "taken", "I", false)
  | 15 => ("StatementRules2$Machine", "outcome", "I", false)
  | 16 => ("StatementRules2$Machine", "way", "I", false)
  | 17 => ("StatementRules2$Machine", "wayValue", "I", false)
  | 18 => ("StatementRules2$Machine", "wayTarget", "I", false)
  | _ => ("StatementRules2$Machine", "wayThrown", "LStatementRules2$Thrown;", false)
def tyX3 : Nat → FieldType := fun k => match k with
  | 0 => .object "StatementRules2$Told"
  | 1 => .object "StatementRules2$Code"
  | 2 => .array .int
  | 3 => .array .int
  | 4 => .array (.object "StatementRules2$Frame")
  | 5 => .array (.object "StatementRules2$Thrown")
  | 6 => .array .int
  | 7 => .array .int
  | 8 => .int
  | 9 => .int
  | 10 => .int
  | 11 => .int
  | 12 => .int
  | 13 => .int
  | 14 => .int
  | 15 => .int
  | 16 => .int
  | 17 => .int
  | 18 => .int
  | _ => .object "StatementRules2$Thrown"
abbrev wsX30 : List Cond := u_ws RX3 TX3 20
theorem nmX3 : ∀ a, a < 20 → ∀ b, b < 20 → a ≠ b → (TX3 a).2.1 ≠ (TX3 b).2.1 := by decide +kernel
theorem tyX3_ok : ∀ k, k < 20 → parseFieldDescriptor (TX3 k).2.2.1 = some (tyX3 k) := by decide +kernel
abbrev cX3_init : ByteArray := prog_5_method_1_code
def yX3_init : MethodName := ⟨RX3, "<init>", "(LStatementRules2$Told;LStatementRules2$Code;)V"⟩
abbrev cX3_perform : ByteArray := prog_5_method_2_code
def yX3_perform : MethodName := ⟨RX3, "perform", "(II)I"⟩
abbrev cX3_answer : ByteArray := prog_5_method_3_code
def yX3_answer : MethodName := ⟨RX3, "answer", "(I)I"⟩
abbrev cX3_lastThrown : ByteArray := prog_5_method_4_code
def yX3_lastThrown : MethodName := ⟨RX3, "lastThrown", "()LStatementRules2$Thrown;"⟩
abbrev cX3_instruction : ByteArray := prog_5_method_5_code
def yX3_instruction : MethodName := ⟨RX3, "instruction", "()V"⟩
abbrev cX3_push : ByteArray := prog_5_method_6_code
def yX3_push : MethodName := ⟨RX3, "push", "(I)V"⟩
abbrev cX3_pop : ByteArray := prog_5_method_7_code
def yX3_pop : MethodName := ⟨RX3, "pop", "()I"⟩
abbrev cX3_move : ByteArray := prog_5_method_8_code
def yX3_move : MethodName := ⟨RX3, "move", "(II)V"⟩
abbrev cX3_combine : ByteArray := prog_5_method_9_code
def yX3_combine : MethodName := ⟨RX3, "combine", "(I)V"⟩
abbrev cX3_divide : ByteArray := prog_5_method_10_code
def yX3_divide : MethodName := ⟨RX3, "divide", "(III)V"⟩
abbrev cX3_compares : ByteArray := prog_5_method_11_code
def yX3_compares : MethodName := ⟨RX3, "compares", "(III)Z"⟩
abbrev cX3_steer : ByteArray := prog_5_method_12_code
def yX3_steer : MethodName := ⟨RX3, "steer", "(II)V"⟩
abbrev cX3_goIf : ByteArray := prog_5_method_13_code
def yX3_goIf : MethodName := ⟨RX3, "goIf", "(ZI)V"⟩
abbrev cX3_keep : ByteArray := prog_5_method_14_code
def yX3_keep : MethodName := ⟨RX3, "keep", "(ZI)V"⟩
abbrev cX3_compareCase : ByteArray := prog_5_method_15_code
def yX3_compareCase : MethodName := ⟨RX3, "compareCase", "(I)V"⟩
abbrev cX3_fillRow : ByteArray := prog_5_method_16_code
def yX3_fillRow : MethodName := ⟨RX3, "fillRow", "(I)V"⟩
abbrev cX3_act : ByteArray := prog_5_method_17_code
def yX3_act : MethodName := ⟨RX3, "act", "(II)V"⟩
abbrev cX3_step : ByteArray := prog_5_method_18_code
def yX3_step : MethodName := ⟨RX3, "step", "()V"⟩
abbrev cX3_note : ByteArray := prog_5_method_19_code
def yX3_note : MethodName := ⟨RX3, "note", "(II)V"⟩
abbrev cX3_enter : ByteArray := prog_5_method_20_code
def yX3_enter : MethodName := ⟨RX3, "enter", "(II)V"⟩
abbrev cX3_frame : ByteArray := prog_5_method_21_code
def yX3_frame : MethodName := ⟨RX3, "frame", "(I)LStatementRules2$Frame;"⟩
abbrev cX3_openOne : ByteArray := prog_5_method_22_code
def yX3_openOne : MethodName := ⟨RX3, "openOne", "(I)V"⟩
abbrev cX3_turn : ByteArray := prog_5_method_23_code
def yX3_turn : MethodName := ⟨RX3, "turn", "(II)V"⟩
abbrev cX3_handle : ByteArray := prog_5_method_24_code
def yX3_handle : MethodName := ⟨RX3, "handle", "(IILStatementRules2$Frame;)V"⟩
abbrev cX3_go : ByteArray := prog_5_method_25_code
def yX3_go : MethodName := ⟨RX3, "go", "(III)V"⟩
abbrev cX3_raise : ByteArray := prog_5_method_26_code
def yX3_raise : MethodName := ⟨RX3, "raise", "(II)V"⟩
abbrev cX3_throwAgain : ByteArray := prog_5_method_27_code
def yX3_throwAgain : MethodName := ⟨RX3, "throwAgain", "(LStatementRules2$Frame;)V"⟩
abbrev cX3_freeThrown : ByteArray := prog_5_method_28_code
def yX3_freeThrown : MethodName := ⟨RX3, "freeThrown", "()LStatementRules2$Thrown;"⟩
abbrev cX3_isHeld : ByteArray := prog_5_method_29_code
def yX3_isHeld : MethodName := ⟨RX3, "isHeld", "(LStatementRules2$Thrown;)Z"⟩
abbrev cX3_resume : ByteArray := prog_5_method_30_code
def yX3_resume : MethodName := ⟨RX3, "resume", "(LStatementRules2$Frame;)V"⟩
abbrev cX3_leaveOne : ByteArray := prog_5_method_31_code
def yX3_leaveOne : MethodName := ⟨RX3, "leaveOne", "()V"⟩
abbrev cX3_arrive : ByteArray := prog_5_method_32_code
def yX3_arrive : MethodName := ⟨RX3, "arrive", "()V"⟩
abbrev cX3_leaveBody : ByteArray := prog_5_method_33_code
def yX3_leaveBody : MethodName := ⟨RX3, "leaveBody", "(LStatementRules2$Frame;)V"⟩
abbrev cX3_closeOne : ByteArray := prog_5_method_34_code
def yX3_closeOne : MethodName := ⟨RX3, "closeOne", "(I)V"⟩
abbrev cX3_enterFinally : ByteArray := prog_5_method_35_code
def yX3_enterFinally : MethodName := ⟨RX3, "enterFinally", "(LStatementRules2$Frame;)V"⟩
abbrev cX3_begin : ByteArray := prog_5_method_36_code
def yX3_begin : MethodName := ⟨RX3, "begin", "(LStatementRules2$Frame;I)V"⟩
def RX4 : String := "StatementRules2$Names"
def TX4 : u_T := fun k => match k with
  | 0 => ("StatementRules2$Names", "names", "[J", true)
  | 1 => ("StatementRules2$Names", "cells", "[I", true)
  | 2 => ("StatementRules2$Names", "frames", "[I", true)
  | _ => ("StatementRules2$Names", "count", "I", false)
def tyX4 : Nat → FieldType := fun k => match k with
  | 0 => .array .long
  | 1 => .array .int
  | 2 => .array .int
  | _ => .int
abbrev wsX40 : List Cond := u_ws RX4 TX4 4
theorem nmX4 : ∀ a, a < 4 → ∀ b, b < 4 → a ≠ b → (TX4 a).2.1 ≠ (TX4 b).2.1 := by decide +kernel
theorem tyX4_ok : ∀ k, k < 4 → parseFieldDescriptor (TX4 k).2.2.1 = some (tyX4 k) := by decide +kernel
abbrev cX4_init : ByteArray := prog_6_method_1_code
def yX4_init : MethodName := ⟨RX4, "<init>", "()V"⟩
abbrev cX4_find : ByteArray := prog_6_method_2_code
def yX4_find : MethodName := ⟨RX4, "find", "(J)I"⟩
abbrev cX4_add : ByteArray := prog_6_method_3_code
def yX4_add : MethodName := ⟨RX4, "add", "(JII)V"⟩
abbrev cX4_cellOf : ByteArray := prog_6_method_4_code
def yX4_cellOf : MethodName := ⟨RX4, "cellOf", "(I)I"⟩
abbrev cX4_frameOf : ByteArray := prog_6_method_5_code
def yX4_frameOf : MethodName := ⟨RX4, "frameOf", "(I)I"⟩
abbrev cX4_isCaught : ByteArray := prog_6_method_6_code
def yX4_isCaught : MethodName := ⟨RX4, "isCaught", "(I)Z"⟩
def RX5 : String := "StatementRules2$Open"
def TX5 : u_T := fun k => match k with
  | 0 => ("StatementRules2$Open", "sort", "I", false)
  | 1 => ("StatementRules2$Open", "serial", "I", false)
  | 2 => ("StatementRules2$Open", "depth", "I", false)
  | 3 => ("StatementRules2$Open", "namesBefore", "I", false)
  | 4 => ("StatementRules2$Open", "label", "J", false)
  | 5 => ("StatementRules2$Open", "begun", "Z", false)
  | 6 => ("StatementRules2$Open", "ends", "Z", false)
  | 7 => ("StatementRules2$Open", "never", "Z", false)
  | 8 => ("StatementRules2$Open", "whole", "Z", false)
  | 9 => ("StatementRules2$Open", "exit", "I", false)
  | 10 => ("StatementRules2$Open", "next", "I", false)
  | 11 => ("StatementRules2$Open", "other", "I", false)
  | 12 => ("StatementRules2$Open", "caught", "I", false)
  | 13 => ("StatementRules2$Open", "firstCase", "I", false)
  | 14 => ("StatementRules2$Open", "firstJump", "I", false)
  | 15 => ("StatementRules2$Open", "finallyJump", "I", false)
  | _ => ("StatementRules2$Open", "outerArm", "I", false)
def tyX5 : Nat → FieldType := fun k => match k with
  | 0 => .int
  | 1 => .int
  | 2 => .int
  | 3 => .int
  | 4 => .long
  | 5 => .boolean
  | 6 => .boolean
  | 7 => .boolean
  | 8 => .boolean
  | 9 => .int
  | 10 => .int
  | 11 => .int
  | 12 => .int
  | 13 => .int
  | 14 => .int
  | 15 => .int
  | _ => .int
abbrev wsX50 : List Cond := u_ws RX5 TX5 17
theorem nmX5 : ∀ a, a < 17 → ∀ b, b < 17 → a ≠ b → (TX5 a).2.1 ≠ (TX5 b).2.1 := by decide +kernel
theorem tyX5_ok : ∀ k, k < 17 → parseFieldDescriptor (TX5 k).2.2.1 = some (tyX5 k) := by decide +kernel
abbrev cX5_init : ByteArray := prog_7_method_1_code
def yX5_init : MethodName := ⟨RX5, "<init>", "()V"⟩
abbrev cX5_isLoop : ByteArray := prog_7_method_2_code
def yX5_isLoop : MethodName := ⟨RX5, "isLoop", "()Z"⟩
abbrev cX5_hasOneBody : ByteArray := prog_7_method_3_code
def yX5_hasOneBody : MethodName := ⟨RX5, "hasOneBody", "()Z"⟩
def RX6 : String := "StatementRules2$Opens"
def TX6 : u_T := fun k => match k with
  | 0 => ("StatementRules2$Opens", "rows", "[LStatementRules2$Open;", true)
  | 1 => ("StatementRules2$Opens", "jumps", "[I", true)
  | 2 => ("StatementRules2$Opens", "count", "I", false)
  | 3 => ("StatementRules2$Opens", "serials", "I", false)
  | 4 => ("StatementRules2$Opens", "jumpCount", "I", false)
  | _ => ("StatementRules2$Opens", "arm", "I", false)
def tyX6 : Nat → FieldType := fun k => match k with
  | 0 => .array (.object "StatementRules2$Open")
  | 1 => .array .int
  | 2 => .int
  | 3 => .int
  | 4 => .int
  | _ => .int
abbrev wsX60 : List Cond := u_ws RX6 TX6 6
theorem nmX6 : ∀ a, a < 6 → ∀ b, b < 6 → a ≠ b → (TX6 a).2.1 ≠ (TX6 b).2.1 := by decide +kernel
theorem tyX6_ok : ∀ k, k < 6 → parseFieldDescriptor (TX6 k).2.2.1 = some (tyX6 k) := by decide +kernel
abbrev cX6_init : ByteArray := prog_8_method_1_code
def yX6_init : MethodName := ⟨RX6, "<init>", "()V"⟩
abbrev cX6_clear : ByteArray := prog_8_method_2_code
def yX6_clear : MethodName := ⟨RX6, "clear", "()V"⟩
abbrev cX6_push : ByteArray := prog_8_method_3_code
def yX6_push : MethodName := ⟨RX6, "push", "(III)LStatementRules2$Open;"⟩
abbrev cX6_pop : ByteArray := prog_8_method_4_code
def yX6_pop : MethodName := ⟨RX6, "pop", "()V"⟩
abbrev cX6_row : ByteArray := prog_8_method_5_code
def yX6_row : MethodName := ⟨RX6, "row", "(I)LStatementRules2$Open;"⟩
abbrev cX6_nearest : ByteArray := prog_8_method_6_code
def yX6_nearest : MethodName := ⟨RX6, "nearest", "(Z)I"⟩
abbrev cX6_labelled : ByteArray := prog_8_method_7_code
def yX6_labelled : MethodName := ⟨RX6, "labelled", "(J)I"⟩
abbrev cX6_loopBehind : ByteArray := prog_8_method_8_code
def yX6_loopBehind : MethodName := ⟨RX6, "loopBehind", "(I)I"⟩
abbrev cX6_addJump : ByteArray := prog_8_method_9_code
def yX6_addJump : MethodName := ⟨RX6, "addJump", "(LStatementRules2$Open;Z)V"⟩
abbrev cX6_isGoneTo : ByteArray := prog_8_method_10_code
def yX6_isGoneTo : MethodName := ⟨RX6, "isGoneTo", "(LStatementRules2$Open;Z)Z"⟩
abbrev cX6_jumpTo : ByteArray := prog_8_method_11_code
def yX6_jumpTo : MethodName := ⟨RX6, "jumpTo", "(LStatementRules2$Open;Z)I"⟩
abbrev cX6_loseJumps : ByteArray := prog_8_method_12_code
def yX6_loseJumps : MethodName := ⟨RX6, "loseJumps", "(II)V"⟩
def RX7 : String := "StatementRules2$Statements"
def TX7 : u_T := fun k => match k with
  | 0 => ("StatementRules2$Formulas", "tokens", "LStatementRules2$Tokens;", true)
  | 1 => ("StatementRules2$Formulas", "code", "LStatementRules2$Code;", true)
  | 2 => ("StatementRules2$Formulas", "told", "LStatementRules2$Told;", true)
  | 3 => ("StatementRules2$Formulas", "names", "LStatementRules2$Names;", true)
  | 4 => ("StatementRules2$Formulas", "faultNumber", "I", false)
  | 5 => ("StatementRules2$Formulas", "faultPlace", "I", false)
  | 6 => ("StatementRules2$Formulas", "openSigns", "I", false)
  | 7 => ("StatementRules2$Statements", "opens", "LStatementRules2$Opens;", true)
  | 8 => ("StatementRules2$Statements", "alive", "Z", false)
  | 9 => ("StatementRules2$Statements", "unreached", "I", false)
  | _ => ("StatementRules2$Statements", "depth", "I", false)
def tyX7 : Nat → FieldType := fun k => match k with
  | 0 => .object "StatementRules2$Tokens"
  | 1 => .object "StatementRules2$Code"
  | 2 => .object "StatementRules2$Told"
  | 3 => .object "StatementRules2$Names"
  | 4 => .int
  | 5 => .int
  | 6 => .int
  | 7 => .object "StatementRules2$Opens"
  | 8 => .boolean
  | 9 => .int
  | _ => .int
abbrev wsX70 : List Cond := u_ws RX7 TX7 11
theorem nmX7 : ∀ a, a < 11 → ∀ b, b < 11 → a ≠ b → (TX7 a).2.1 ≠ (TX7 b).2.1 := by decide +kernel
theorem tyX7_ok : ∀ k, k < 11 → parseFieldDescriptor (TX7 k).2.2.1 = some (tyX7 k) := by decide +kernel
abbrev cX7_init : ByteArray := prog_9_method_1_code
def yX7_init : MethodName := ⟨RX7, "<init>", "(LStatementRules2$Tokens;LStatementRules2$Code;LStatementRules2$Told;)V"⟩
abbrev cX7_translate : ByteArray := prog_9_method_2_code
def yX7_translate : MethodName := ⟨RX7, "translate", "(I)I"⟩
abbrev cX7_turns : ByteArray := prog_9_method_3_code
def yX7_turns : MethodName := ⟨RX7, "turns", "(I)V"⟩
abbrev cX7_bodyTurn : ByteArray := prog_9_method_4_code
def yX7_bodyTurn : MethodName := ⟨RX7, "bodyTurn", "(LStatementRules2$Open;)V"⟩
abbrev cX7_groupTurn : ByteArray := prog_9_method_5_code
def yX7_groupTurn : MethodName := ⟨RX7, "groupTurn", "(LStatementRules2$Open;)V"⟩
abbrev cX7_statement : ByteArray := prog_9_method_6_code
def yX7_statement : MethodName := ⟨RX7, "statement", "(Z)V"⟩
abbrev cX7_notReached : ByteArray := prog_9_method_7_code
def yX7_notReached : MethodName := ⟨RX7, "notReached", "(I)V"⟩
abbrev cX7_named : ByteArray := prog_9_method_8_code
def yX7_named : MethodName := ⟨RX7, "named", "()V"⟩
abbrev cX7_change : ByteArray := prog_9_method_9_code
def yX7_change : MethodName := ⟨RX7, "change", "(JIZ)V"⟩
abbrev cX7_plain : ByteArray := prog_9_method_10_code
def yX7_plain : MethodName := ⟨RX7, "plain", "()V"⟩
abbrev cX7_compound : ByteArray := prog_9_method_11_code
def yX7_compound : MethodName := ⟨RX7, "compound", "()V"⟩
abbrev cX7_newName : ByteArray := prog_9_method_12_code
def yX7_newName : MethodName := ⟨RX7, "newName", "()J"⟩
abbrev cX7_define : ByteArray := prog_9_method_13_code
def yX7_define : MethodName := ⟨RX7, "define", "(J)V"⟩
abbrev cX7_tell : ByteArray := prog_9_method_14_code
def yX7_tell : MethodName := ⟨RX7, "tell", "(J)I"⟩
abbrev cX7_jump : ByteArray := prog_9_method_15_code
def yX7_jump : MethodName := ⟨RX7, "jump", "()V"⟩
abbrev cX7_labelTarget : ByteArray := prog_9_method_16_code
def yX7_labelTarget : MethodName := ⟨RX7, "labelTarget", "(Z)I"⟩
abbrev cX7_leave : ByteArray := prog_9_method_17_code
def yX7_leave : MethodName := ⟨RX7, "leave", "(II)V"⟩
abbrev cX7_giveBack : ByteArray := prog_9_method_18_code
def yX7_giveBack : MethodName := ⟨RX7, "giveBack", "()V"⟩
abbrev cX7_yieldValue : ByteArray := prog_9_method_19_code
def yX7_yieldValue : MethodName := ⟨RX7, "yieldValue", "()V"⟩
abbrev cX7_throwOne : ByteArray := prog_9_method_20_code
def yX7_throwOne : MethodName := ⟨RX7, "throwOne", "()V"⟩
abbrev cX7_claim : ByteArray := prog_9_method_21_code
def yX7_claim : MethodName := ⟨RX7, "claim", "()V"⟩
abbrev cX7_beginIf : ByteArray := prog_9_method_22_code
def yX7_beginIf : MethodName := ⟨RX7, "beginIf", "()V"⟩
abbrev cX7_conditionInside : ByteArray := prog_9_method_23_code
def yX7_conditionInside : MethodName := ⟨RX7, "conditionInside", "()Z"⟩
abbrev cX7_beginWhile : ByteArray := prog_9_method_24_code
def yX7_beginWhile : MethodName := ⟨RX7, "beginWhile", "()V"⟩
abbrev cX7_pushLoop : ByteArray := prog_9_method_25_code
def yX7_pushLoop : MethodName := ⟨RX7, "pushLoop", "(III)LStatementRules2$Open;"⟩
abbrev cX7_beginDo : ByteArray := prog_9_method_26_code
def yX7_beginDo : MethodName := ⟨RX7, "beginDo", "()V"⟩
abbrev cX7_beginFor : ByteArray := prog_9_method_27_code
def yX7_beginFor : MethodName := ⟨RX7, "beginFor", "()V"⟩
abbrev cX7_changeHere : ByteArray := prog_9_method_28_code
def yX7_changeHere : MethodName := ⟨RX7, "changeHere", "(Z)V"⟩
abbrev cX7_forHead : ByteArray := prog_9_method_29_code
def yX7_forHead : MethodName := ⟨RX7, "forHead", "()LStatementRules2$Open;"⟩
abbrev cX7_rowHead : ByteArray := prog_9_method_30_code
def yX7_rowHead : MethodName := ⟨RX7, "rowHead", "(J)LStatementRules2$Open;"⟩
abbrev cX7_rowValues : ByteArray := prog_9_method_31_code
def yX7_rowValues : MethodName := ⟨RX7, "rowValues", "()I"⟩
abbrev cX7_throwNull : ByteArray := prog_9_method_32_code
def yX7_throwNull : MethodName := ⟨RX7, "throwNull", "()V"⟩
abbrev cX7_beginLock : ByteArray := prog_9_method_33_code
def yX7_beginLock : MethodName := ⟨RX7, "beginLock", "()V"⟩
abbrev cX7_beginSwitch : ByteArray := prog_9_method_34_code
def yX7_beginSwitch : MethodName := ⟨RX7, "beginSwitch", "()V"⟩
abbrev cX7_beginTry : ByteArray := prog_9_method_35_code
def yX7_beginTry : MethodName := ⟨RX7, "beginTry", "()V"⟩
abbrev cX7_openResource : ByteArray := prog_9_method_36_code
def yX7_openResource : MethodName := ⟨RX7, "openResource", "()V"⟩
abbrev cX7_endBody : ByteArray := prog_9_method_37_code
def yX7_endBody : MethodName := ⟨RX7, "endBody", "(LStatementRules2$Open;)V"⟩
abbrev cX7_endIf : ByteArray := prog_9_method_38_code
def yX7_endIf : MethodName := ⟨RX7, "endIf", "(LStatementRules2$Open;)V"⟩
abbrev cX7_endDo : ByteArray := prog_9_method_39_code
def yX7_endDo : MethodName := ⟨RX7, "endDo", "(LStatementRules2$Open;)V"⟩
abbrev cX7_endList : ByteArray := prog_9_method_40_code
def yX7_endList : MethodName := ⟨RX7, "endList", "(LStatementRules2$Open;)V"⟩
abbrev cX7_endLock : ByteArray := prog_9_method_41_code
def yX7_endLock : MethodName := ⟨RX7, "endLock", "(LStatementRules2$Open;)V"⟩
abbrev cX7_endSwitch : ByteArray := prog_9_method_42_code
def yX7_endSwitch : MethodName := ⟨RX7, "endSwitch", "(LStatementRules2$Open;)V"⟩
abbrev cX7_endGuarded : ByteArray := prog_9_method_43_code
def yX7_endGuarded : MethodName := ⟨RX7, "endGuarded", "(LStatementRules2$Open;)V"⟩
abbrev cX7_beginCatch : ByteArray := prog_9_method_44_code
def yX7_beginCatch : MethodName := ⟨RX7, "beginCatch", "(LStatementRules2$Open;)V"⟩
abbrev cX7_caughtKind : ByteArray := prog_9_method_45_code
def yX7_caughtKind : MethodName := ⟨RX7, "caughtKind", "(LStatementRules2$Open;I)V"⟩
abbrev cX7_beginFinally : ByteArray := prog_9_method_46_code
def yX7_beginFinally : MethodName := ⟨RX7, "beginFinally", "(LStatementRules2$Open;)V"⟩
abbrev cX7_endFinally : ByteArray := prog_9_method_47_code
def yX7_endFinally : MethodName := ⟨RX7, "endFinally", "(LStatementRules2$Open;)V"⟩
abbrev cX7_armBlock : ByteArray := prog_9_method_48_code
def yX7_armBlock : MethodName := ⟨RX7, "armBlock", "(I)V"⟩
def RX8 : String := "StatementRules2$Thrown"
def TX8 : u_T := fun k => match k with
  | 0 => ("StatementRules2$Thrown", "kinds", "[I", true)
  | 1 => ("StatementRules2$Thrown", "numbers", "[I", true)
  | 2 => ("StatementRules2$Thrown", "sort", "I", false)
  | 3 => ("StatementRules2$Thrown", "number", "I", false)
  | _ => ("StatementRules2$Thrown", "count", "I", false)
def tyX8 : Nat → FieldType := fun k => match k with
  | 0 => .array .int
  | 1 => .array .int
  | 2 => .int
  | 3 => .int
  | _ => .int
abbrev wsX80 : List Cond := u_ws RX8 TX8 5
theorem nmX8 : ∀ a, a < 5 → ∀ b, b < 5 → a ≠ b → (TX8 a).2.1 ≠ (TX8 b).2.1 := by decide +kernel
theorem tyX8_ok : ∀ k, k < 5 → parseFieldDescriptor (TX8 k).2.2.1 = some (tyX8 k) := by decide +kernel
abbrev cX8_init : ByteArray := prog_10_method_1_code
def yX8_init : MethodName := ⟨RX8, "<init>", "()V"⟩
abbrev cX8_suppress : ByteArray := prog_10_method_2_code
def yX8_suppress : MethodName := ⟨RX8, "suppress", "(II)V"⟩
def RX9 : String := "StatementRules2$Tokens"
def TX9 : u_T := fun k => match k with
  | 0 => ("StatementRules2$Tokens", "tape", "[I", true)
  | 1 => ("StatementRules2$Tokens", "words", "[J", true)
  | 2 => ("StatementRules2$Tokens", "length", "I", false)
  | 3 => ("StatementRules2$Tokens", "next", "I", false)
  | 4 => ("StatementRules2$Tokens", "type", "I", false)
  | 5 => ("StatementRules2$Tokens", "place", "I", false)
  | 6 => ("StatementRules2$Tokens", "value", "I", false)
  | _ => ("StatementRules2$Tokens", "name", "J", false)
def tyX9 : Nat → FieldType := fun k => match k with
  | 0 => .array .int
  | 1 => .array .long
  | 2 => .int
  | 3 => .int
  | 4 => .int
  | 5 => .int
  | 6 => .int
  | _ => .long
abbrev wsX90 : List Cond := u_ws RX9 TX9 8
theorem nmX9 : ∀ a, a < 8 → ∀ b, b < 8 → a ≠ b → (TX9 a).2.1 ≠ (TX9 b).2.1 := by decide +kernel
theorem tyX9_ok : ∀ k, k < 8 → parseFieldDescriptor (TX9 k).2.2.1 = some (tyX9 k) := by decide +kernel
abbrev cX9_init : ByteArray := prog_11_method_1_code
def yX9_init : MethodName := ⟨RX9, "<init>", "([I)V"⟩
abbrev cX9_start : ByteArray := prog_11_method_2_code
def yX9_start : MethodName := ⟨RX9, "start", "(I)V"⟩
abbrev cX9_stop : ByteArray := prog_11_method_3_code
def yX9_stop : MethodName := ⟨RX9, "stop", "()V"⟩
abbrev cX9_advance : ByteArray := prog_11_method_4_code
def yX9_advance : MethodName := ⟨RX9, "advance", "()V"⟩
abbrev cX9_byteAt : ByteArray := prog_11_method_5_code
def yX9_byteAt : MethodName := ⟨RX9, "byteAt", "(I)I"⟩
abbrev cX9_isDigit : ByteArray := prog_11_method_6_code
def yX9_isDigit : MethodName := ⟨RX9, "isDigit", "(I)Z"⟩
abbrev cX9_isLetter : ByteArray := prog_11_method_7_code
def yX9_isLetter : MethodName := ⟨RX9, "isLetter", "(I)Z"⟩
abbrev cX9_takeNumber : ByteArray := prog_11_method_8_code
def yX9_takeNumber : MethodName := ⟨RX9, "takeNumber", "()V"⟩
abbrev cX9_takeRow : ByteArray := prog_11_method_9_code
def yX9_takeRow : MethodName := ⟨RX9, "takeRow", "()V"⟩
abbrev cX9_rowType : ByteArray := prog_11_method_10_code
def yX9_rowType : MethodName := ⟨RX9, "rowType", "(I)I"⟩
abbrev cX9_takeSign : ByteArray := prog_11_method_11_code
def yX9_takeSign : MethodName := ⟨RX9, "takeSign", "()V"⟩
abbrev cX9_longSign : ByteArray := prog_11_method_12_code
def yX9_longSign : MethodName := ⟨RX9, "longSign", "(II)I"⟩
abbrev cX9_isSign : ByteArray := prog_11_method_13_code
def yX9_isSign : MethodName := ⟨RX9, "isSign", "(I)Z"⟩
def RX10 : String := "StatementRules2$Told"
def TX10 : u_T := fun k => match k with
  | 0 => ("StatementRules2$Told", "above", "[I", true)
  | 1 => ("StatementRules2$Told", "isNull", "[I", true)
  | 2 => ("StatementRules2$Told", "opening", "[I", true)
  | 3 => ("StatementRules2$Told", "closing", "[I", true)
  | 4 => ("StatementRules2$Told", "kindCount", "I", false)
  | _ => ("StatementRules2$Told", "assertsOn", "Z", false)
def tyX10 : Nat → FieldType := fun k => match k with
  | 0 => .array .int
  | 1 => .array .int
  | 2 => .array .int
  | 3 => .array .int
  | 4 => .int
  | _ => .boolean
abbrev wsX100 : List Cond := u_ws RX10 TX10 6
theorem nmX10 : ∀ a, a < 6 → ∀ b, b < 6 → a ≠ b → (TX10 a).2.1 ≠ (TX10 b).2.1 := by decide +kernel
theorem tyX10_ok : ∀ k, k < 6 → parseFieldDescriptor (TX10 k).2.2.1 = some (tyX10 k) := by decide +kernel
abbrev cX10_init : ByteArray := prog_12_method_1_code
def yX10_init : MethodName := ⟨RX10, "<init>", "()V"⟩
abbrev cX10_isKind : ByteArray := prog_12_method_2_code
def yX10_isKind : MethodName := ⟨RX10, "isKind", "(I)Z"⟩
abbrev cX10_isFull : ByteArray := prog_12_method_3_code
def yX10_isFull : MethodName := ⟨RX10, "isFull", "()Z"⟩
abbrev cX10_addKind : ByteArray := prog_12_method_4_code
def yX10_addKind : MethodName := ⟨RX10, "addKind", "(I)I"⟩
abbrev cX10_isUnder : ByteArray := prog_12_method_5_code
def yX10_isUnder : MethodName := ⟨RX10, "isUnder", "(II)Z"⟩
abbrev cX10_tellResource : ByteArray := prog_12_method_6_code
def yX10_tellResource : MethodName := ⟨RX10, "tellResource", "(IIII)V"⟩
def RX11 : String := "StatementRules2"
def TX11 : u_T := fun k => match k with
  | 0 => ("StatementRules2", "tape", "[I", true)
  | 1 => ("StatementRules2", "told", "LStatementRules2$Told;", true)
  | 2 => ("StatementRules2", "code", "LStatementRules2$Code;", true)
  | 3 => ("StatementRules2", "reader", "LStatementRules2$Statements;", true)
  | 4 => ("StatementRules2", "machine", "LStatementRules2$Machine;", true)
  | 5 => ("StatementRules2", "length", "I", false)
  | 6 => ("StatementRules2", "latestFault", "I", false)
  | 7 => ("StatementRules2", "hasProgram", "Z", false)
  | _ => ("StatementRules2", "hasRun", "Z", false)
def tyX11 : Nat → FieldType := fun k => match k with
  | 0 => .array .int
  | 1 => .object "StatementRules2$Told"
  | 2 => .object "StatementRules2$Code"
  | 3 => .object "StatementRules2$Statements"
  | 4 => .object "StatementRules2$Machine"
  | 5 => .int
  | 6 => .int
  | 7 => .boolean
  | _ => .boolean
abbrev wsX110 : List Cond := u_ws RX11 TX11 9
theorem nmX11 : ∀ a, a < 9 → ∀ b, b < 9 → a ≠ b → (TX11 a).2.1 ≠ (TX11 b).2.1 := by decide +kernel
theorem tyX11_ok : ∀ k, k < 9 → parseFieldDescriptor (TX11 k).2.2.1 = some (tyX11 k) := by decide +kernel
abbrev cX11_init : ByteArray := prog_1_method_1_code
def yX11_init : MethodName := ⟨RX11, "<init>", "()V"⟩
abbrev cX11_feed : ByteArray := prog_1_method_2_code
def yX11_feed : MethodName := ⟨RX11, "feed", "(IIIII)I"⟩
abbrev cX11_addBytes : ByteArray := prog_1_method_3_code
def yX11_addBytes : MethodName := ⟨RX11, "addBytes", "(I)V"⟩
abbrev cX11_cut : ByteArray := prog_1_method_4_code
def yX11_cut : MethodName := ⟨RX11, "cut", "(I)I"⟩
abbrev cX11_kind : ByteArray := prog_1_method_5_code
def yX11_kind : MethodName := ⟨RX11, "kind", "(I)I"⟩
abbrev cX11_resource : ByteArray := prog_1_method_6_code
def yX11_resource : MethodName := ⟨RX11, "resource", "(IIII)I"⟩
abbrev cX11_isKindOrNothing : ByteArray := prog_1_method_7_code
def yX11_isKindOrNothing : MethodName := ⟨RX11, "isKindOrNothing", "(I)Z"⟩
abbrev cX11_asserts : ByteArray := prog_1_method_8_code
def yX11_asserts : MethodName := ⟨RX11, "asserts", "(Z)I"⟩
abbrev cX11_read : ByteArray := prog_1_method_9_code
def yX11_read : MethodName := ⟨RX11, "read", "()I"⟩
abbrev cX11_fault : ByteArray := prog_1_method_10_code
def yX11_fault : MethodName := ⟨RX11, "fault", "()I"⟩
abbrev cX11_program : ByteArray := prog_1_method_11_code
def yX11_program : MethodName := ⟨RX11, "program", "(I)I"⟩
abbrev cX11_run : ByteArray := prog_1_method_12_code
def yX11_run : MethodName := ⟨RX11, "run", "(II)I"⟩
abbrev cX11_ran : ByteArray := prog_1_method_13_code
def yX11_ran : MethodName := ⟨RX11, "ran", "(I)I"⟩
abbrev cX11_trace : ByteArray := prog_1_method_14_code
def yX11_trace : MethodName := ⟨RX11, "trace", "(II)I"⟩
abbrev cX11_suppressed : ByteArray := prog_1_method_15_code
def yX11_suppressed : MethodName := ⟨RX11, "suppressed", "(II)I"⟩
abbrev cX11_under : ByteArray := prog_1_method_16_code
def yX11_under : MethodName := ⟨RX11, "under", "(II)I"⟩
abbrev cX11_rounds : ByteArray := prog_1_method_17_code
def yX11_rounds : MethodName := ⟨RX11, "rounds", "(II)I"⟩
abbrev cX11_at : ByteArray := prog_1_method_18_code
def yX11_at : MethodName := ⟨RX11, "at", "([II)I"⟩
abbrev cX11_put : ByteArray := prog_1_method_19_code
def yX11_put : MethodName := ⟨RX11, "put", "([III)V"⟩
def RX12 : String := "StatementRules2Model"
def TX12 : u_T := fun k => match k with
  | 0 => ("StatementRules2Model", "thrown", "I", false)
  | 1 => ("StatementRules2Model", "tape", "[I", true)
  | 2 => ("StatementRules2Model", "taped", "I", false)
  | 3 => ("StatementRules2Model", "kinds", "I", false)
  | 4 => ("StatementRules2Model", "above", "[I", true)
  | 5 => ("StatementRules2Model", "isNull", "[Z", true)
  | 6 => ("StatementRules2Model", "opening", "[I", true)
  | 7 => ("StatementRules2Model", "closing", "[I", true)
  | 8 => ("StatementRules2Model", "asserting", "Z", false)
  | 9 => ("StatementRules2Model", "words", "[J", true)
  | 10 => ("StatementRules2Model", "tok", "I", false)
  | 11 => ("StatementRules2Model", "from", "I", false)
  | 12 => ("StatementRules2Model", "to", "I", false)
  | 13 => ("StatementRules2Model", "name", "J", false)
  | 14 => ("StatementRules2Model", "number", "I", false)
  | 15 => ("StatementRules2Model", "fault", "I", false)
  | 16 => ("StatementRules2Model", "faultAt", "I", false)
  | 17 => ("StatementRules2Model", "tokens", "I", false)
  | 18 => ("StatementRules2Model", "late", "I", false)
  | 19 => ("StatementRules2Model", "opened", "I", false)
  | 20 => ("StatementRules2Model", "codes", "I", false)
  | 21 => ("StatementRules2Model", "op", "[I", true)
  | 22 => ("StatementRules2Model", "ix", "[I", true)
  | 23 => ("StatementRules2Model", "iy", "[I", true)
  | 24 => ("StatementRules2Model", "entries", "I", false)
  | 25 => ("StatementRules2Model", "entryValue", "[I", true)
  | 26 => ("StatementRules2Model", "entryAt", "[I", true)
  | 27 => ("StatementRules2Model", "entryNext", "[I", true)
  | 28 => ("StatementRules2Model", "entryElse", "[Z", true)
  | 29 => ("StatementRules2Model", "tries", "I", false)
  | 30 => ("StatementRules2Model", "tryCatch", "[I", true)
  | 31 => ("StatementRules2Model", "tryFinal", "[I", true)
  | 32 => ("StatementRules2Model", "tryEnd", "[I", true)
  | 33 => ("StatementRules2Model", "catches", "I", false)
  | 34 => ("StatementRules2Model", "catchKind", "[I", true)
  | 35 => ("StatementRules2Model", "catchAt", "[I", true)
  | 36 => ("StatementRules2Model", "catchSlot", "[I", true)
  | 37 => ("StatementRules2Model", "catchNext", "[I", true)
  | 38 => ("StatementRules2Model", "seen", "I", false)
  | 39 => ("StatementRules2Model", "seenName", "[J", true)
  | 40 => ("StatementRules2Model", "seenSlot", "[I", true)
  | 41 => ("StatementRules2Model", "seenCaught", "[Z", true)
  | 42 => ("StatementRules2Model", "slots", "I", false)
  | 43 => ("StatementRules2Model", "goals", "I", false)
  | 44 => ("StatementRules2Model", "goalSort", "[I", true)
  | 45 => ("StatementRules2Model", "goalName", "[J", true)
  | 46 => ("StatementRules2Model", "goalLoop", "[I", true)
  | 47 => ("StatementRules2Model", "goalDepth", "[I", true)
  | 48 => ("StatementRules2Model", "breaks", "[I", true)
  | 49 => ("StatementRules2Model", "continues", "[I", true)
  | 50 => ("StatementRules2Model", "broken", "[Z", true)
  | 51 => ("StatementRules2Model", "continued", "[Z", true)
  | 52 => ("StatementRules2Model", "depth", "I", false)
  | 53 => ("StatementRules2Model", "statements", "I", false)
  | 54 => ("StatementRules2Model", "tellings", "I", false)
  | 55 => ("StatementRules2Model", "jumps", "I", false)
  | 56 => ("StatementRules2Model", "walls", "I", false)
  | 57 => ("StatementRules2Model", "wallTry", "[I", true)
  | 58 => ("StatementRules2Model", "wallGoals", "[I", true)
  | 59 => ("StatementRules2Model", "pends", "I", false)
  | 60 => ("StatementRules2Model", "pendGoal", "[I", true)
  | 61 => ("StatementRules2Model", "pendBreak", "[Z", true)
  | 62 => ("StatementRules2Model", "pendTry", "[I", true)
  | 63 => ("StatementRules2Model", "top", "I", false)
  | 64 => ("StatementRules2Model", "fk", "[I", true)
  | 65 => ("StatementRules2Model", "fs", "[I", true)
  | 66 => ("StatementRules2Model", "fp", "[I", true)
  | 67 => ("StatementRules2Model", "fq", "[I", true)
  | 68 => ("StatementRules2Model", "fr", "[I", true)
  | 69 => ("StatementRules2Model", "fv", "[I", true)
  | 70 => ("StatementRules2Model", "fw", "[I", true)
  | 71 => ("StatementRules2Model", "fx", "[I", true)
  | 72 => ("StatementRules2Model", "fy", "[I", true)
  | 73 => ("StatementRules2Model", "fz", "[I", true)
  | 74 => ("StatementRules2Model", "fn", "[J", true)
  | 75 => ("StatementRules2Model", "res", "Z", false)
  | 76 => ("StatementRules2Model", "lastFault", "I", false)
  | 77 => ("StatementRules2Model", "hasProgram", "Z", false)
  | 78 => ("StatementRules2Model", "endsWell", "Z", false)
  | 79 => ("StatementRules2Model", "hasRun", "Z", false)
  | 80 => ("StatementRules2Model", "steps", "I", false)
  | 81 => ("StatementRules2Model", "rowMany", "I", false)
  | 82 => ("StatementRules2Model", "rowSort", "[I", true)
  | 83 => ("StatementRules2Model", "rowNumber", "[I", true)
  | 84 => ("StatementRules2Model", "vals", "[I", true)
  | 85 => ("StatementRules2Model", "things", "I", false)
  | 86 => ("StatementRules2Model", "thingKind", "[I", true)
  | 87 => ("StatementRules2Model", "thingNumber", "[I", true)
  | 88 => ("StatementRules2Model", "suppressedMany", "[I", true)
  | 89 => ("StatementRules2Model", "suppressedKind", "[I", true)
  | 90 => ("StatementRules2Model", "suppressedNumber", "[I", true)
  | 91 => ("StatementRules2Model", "held", "[I", true)
  | 92 => ("StatementRules2Model", "pc", "I", false)
  | 93 => ("StatementRules2Model", "high", "I", false)
  | 94 => ("StatementRules2Model", "vs", "[I", true)
  | 95 => ("StatementRules2Model", "openMany", "I", false)
  | 96 => ("StatementRules2Model", "openOf", "[I", true)
  | 97 => ("StatementRules2Model", "waiting", "I", false)
  | 98 => ("StatementRules2Model", "waits", "[I", true)
  | 99 => ("StatementRules2Model", "recs", "I", false)
  | 100 => ("StatementRules2Model", "rk", "[I", true)
  | 101 => ("StatementRules2Model", "ra", "[I", true)
  | 102 => ("StatementRules2Model", "rb", "[I", true)
  | 103 => ("StatementRules2Model", "rc", "[I", true)
  | 104 => ("StatementRules2Model", "rHigh", "[I", true)
  | 105 => ("StatementRules2Model", "rHow", "[I", true)
  | 106 => ("StatementRules2Model", "rTo", "[I", true)
  | 107 => ("StatementRules2Model", "rDepth", "[I", true)
  | 108 => ("StatementRules2Model", "rValue", "[I", true)
  | 109 => ("StatementRules2Model", "rThing", "[I", true)
  | 110 => ("StatementRules2Model", "how", "I", false)
  | 111 => ("StatementRules2Model", "goTo", "I", false)
  | 112 => ("StatementRules2Model", "goDepth", "I", false)
  | 113 => ("StatementRules2Model", "value", "I", false)
  | 114 => ("StatementRules2Model", "thing", "I", false)
  | _ => ("StatementRules2Model", "ended", "I", false)
def tyX12 : Nat → FieldType := fun k => match k with
  | 0 => .int
  | 1 => .array .int
  | 2 => .int
  | 3 => .int
  | 4 => .array .int
  | 5 => .array .boolean
  | 6 => .array .int
  | 7 => .array .int
  | 8 => .boolean
  | 9 => .array .long
  | 10 => .int
  | 11 => .int
  | 12 => .int
  | 13 => .long
  | 14 => .int
  | 15 => .int
  | 16 => .int
  | 17 => .int
  | 18 => .int
  | 19 => .int
  | 20 => .int
  | 21 => .array .int
  | 22 => .array .int
  | 23 => .array .int
  | 24 => .int
  | 25 => .array .int
  | 26 => .array .int
  | 27 => .array .int
  | 28 => .array .boolean
  | 29 => .int
  | 30 => .array .int
  | 31 => .array .int
  | 32 => .array .int
  | 33 => .int
  | 34 => .array .int
  | 35 => .array .int
  | 36 => .array .int
  | 37 => .array .int
  | 38 => .int
  | 39 => .array .long
  | 40 => .array .int
  | 41 => .array .boolean
  | 42 => .int
  | 43 => .int
  | 44 => .array .int
  | 45 => .array .long
  | 46 => .array .int
  | 47 => .array .int
  | 48 => .array .int
  | 49 => .array .int
  | 50 => .array .boolean
  | 51 => .array .boolean
  | 52 => .int
  | 53 => .int
  | 54 => .int
  | 55 => .int
  | 56 => .int
  | 57 => .array .int
  | 58 => .array .int
  | 59 => .int
  | 60 => .array .int
  | 61 => .array .boolean
  | 62 => .array .int
  | 63 => .int
  | 64 => .array .int
  | 65 => .array .int
  | 66 => .array .int
  | 67 => .array .int
  | 68 => .array .int
  | 69 => .array .int
  | 70 => .array .int
  | 71 => .array .int
  | 72 => .array .int
  | 73 => .array .int
  | 74 => .array .long
  | 75 => .boolean
  | 76 => .int
  | 77 => .boolean
  | 78 => .boolean
  | 79 => .boolean
  | 80 => .int
  | 81 => .int
  | 82 => .array .int
  | 83 => .array .int
  | 84 => .array .int
  | 85 => .int
  | 86 => .array .int
  | 87 => .array .int
  | 88 => .array .int
  | 89 => .array .int
  | 90 => .array .int
  | 91 => .array .int
  | 92 => .int
  | 93 => .int
  | 94 => .array .int
  | 95 => .int
  | 96 => .array .int
  | 97 => .int
  | 98 => .array .int
  | 99 => .int
  | 100 => .array .int
  | 101 => .array .int
  | 102 => .array .int
  | 103 => .array .int
  | 104 => .array .int
  | 105 => .array .int
  | 106 => .array .int
  | 107 => .array .int
  | 108 => .array .int
  | 109 => .array .int
  | 110 => .int
  | 111 => .int
  | 112 => .int
  | 113 => .int
  | 114 => .int
  | _ => .int
abbrev wsX120 : List Cond := u_ws RX12 TX12 116
theorem nmX12 : ∀ a, a < 116 → ∀ b, b < 116 → a ≠ b → (TX12 a).2.1 ≠ (TX12 b).2.1 := by decide +kernel
theorem tyX12_ok : ∀ k, k < 116 → parseFieldDescriptor (TX12 k).2.2.1 = some (tyX12 k) := by decide +kernel
abbrev cX12_init : ByteArray := prog_14_method_1_code
def yX12_init : MethodName := ⟨RX12, "<init>", "()V"⟩
abbrev cX12_thrown : ByteArray := prog_14_method_2_code
def yX12_thrown : MethodName := ⟨RX12, "thrown", "()I"⟩
abbrev cX12_in : ByteArray := prog_14_method_3_code
def yX12_in : MethodName := ⟨RX12, "in", "(III)Z"⟩
abbrev cX12_feed : ByteArray := prog_14_method_4_code
def yX12_feed : MethodName := ⟨RX12, "feed", "(IIIII)I"⟩
abbrev cX12_cut : ByteArray := prog_14_method_5_code
def yX12_cut : MethodName := ⟨RX12, "cut", "(I)I"⟩
abbrev cX12_kind : ByteArray := prog_14_method_6_code
def yX12_kind : MethodName := ⟨RX12, "kind", "(I)I"⟩
abbrev cX12_isUnder : ByteArray := prog_14_method_7_code
def yX12_isUnder : MethodName := ⟨RX12, "isUnder", "(II)Z"⟩
abbrev cX12_under : ByteArray := prog_14_method_8_code
def yX12_under : MethodName := ⟨RX12, "under", "(II)I"⟩
abbrev cX12_resource : ByteArray := prog_14_method_9_code
def yX12_resource : MethodName := ⟨RX12, "resource", "(IIII)I"⟩
abbrev cX12_asserts : ByteArray := prog_14_method_10_code
def yX12_asserts : MethodName := ⟨RX12, "asserts", "(Z)I"⟩
abbrev cX12_at : ByteArray := prog_14_method_11_code
def yX12_at : MethodName := ⟨RX12, "at", "(I)I"⟩
abbrev cX12_isLetter : ByteArray := prog_14_method_12_code
def yX12_isLetter : MethodName := ⟨RX12, "isLetter", "(I)Z"⟩
abbrev cX12_isDigit : ByteArray := prog_14_method_13_code
def yX12_isDigit : MethodName := ⟨RX12, "isDigit", "(I)Z"⟩
abbrev cX12_next : ByteArray := prog_14_method_14_code
def yX12_next : MethodName := ⟨RX12, "next", "()V"⟩
abbrev cX12_readName : ByteArray := prog_14_method_15_code
def yX12_readName : MethodName := ⟨RX12, "readName", "()V"⟩
abbrev cX12_readSign : ByteArray := prog_14_method_16_code
def yX12_readSign : MethodName := ⟨RX12, "readSign", "(I)V"⟩
abbrev cX12_fail : ByteArray := prog_14_method_17_code
def yX12_fail : MethodName := ⟨RX12, "fail", "(II)V"⟩
abbrev cX12_note : ByteArray := prog_14_method_18_code
def yX12_note : MethodName := ⟨RX12, "note", "(I)V"⟩
abbrev cX12_can : ByteArray := prog_14_method_19_code
def yX12_can : MethodName := ⟨RX12, "can", "(Z)Z"⟩
abbrev cX12_need : ByteArray := prog_14_method_20_code
def yX12_need : MethodName := ⟨RX12, "need", "(I)Z"⟩
abbrev cX12_opens : ByteArray := prog_14_method_21_code
def yX12_opens : MethodName := ⟨RX12, "opens", "()Z"⟩
abbrev cX12_open : ByteArray := prog_14_method_22_code
def yX12_open : MethodName := ⟨RX12, "open", "(I)Z"⟩
abbrev cX12_shut : ByteArray := prog_14_method_23_code
def yX12_shut : MethodName := ⟨RX12, "shut", "(I)Z"⟩
abbrev cX12_emit : ByteArray := prog_14_method_24_code
def yX12_emit : MethodName := ⟨RX12, "emit", "(II)I"⟩
abbrev cX12_seenAs : ByteArray := prog_14_method_25_code
def yX12_seenAs : MethodName := ⟨RX12, "seenAs", "(J)I"⟩
abbrev cX12_see : ByteArray := prog_14_method_26_code
def yX12_see : MethodName := ⟨RX12, "see", "(JZ)I"⟩
abbrev cX12_goal : ByteArray := prog_14_method_27_code
def yX12_goal : MethodName := ⟨RX12, "goal", "(IJ)I"⟩
abbrev cX12_loopGoal : ByteArray := prog_14_method_28_code
def yX12_loopGoal : MethodName := ⟨RX12, "loopGoal", "()I"⟩
abbrev cX12_patch : ByteArray := prog_14_method_29_code
def yX12_patch : MethodName := ⟨RX12, "patch", "(II)V"⟩
abbrev cX12_goes : ByteArray := prog_14_method_30_code
def yX12_goes : MethodName := ⟨RX12, "goes", "(IZ)V"⟩
abbrev cX12_pend : ByteArray := prog_14_method_31_code
def yX12_pend : MethodName := ⟨RX12, "pend", "(IZ)V"⟩
abbrev cX12_resolve : ByteArray := prog_14_method_32_code
def yX12_resolve : MethodName := ⟨RX12, "resolve", "(IZ)V"⟩
abbrev cX12_push : ByteArray := prog_14_method_33_code
def yX12_push : MethodName := ⟨RX12, "push", "(I)V"⟩
abbrev cX12_then : ByteArray := prog_14_method_34_code
def yX12_then : MethodName := ⟨RX12, "then", "(II)V"⟩
abbrev cX12_body : ByteArray := prog_14_method_35_code
def yX12_body : MethodName := ⟨RX12, "body", "(I)V"⟩
abbrev cX12_over : ByteArray := prog_14_method_36_code
def yX12_over : MethodName := ⟨RX12, "over", "(Z)V"⟩
abbrev cX12_parse : ByteArray := prog_14_method_37_code
def yX12_parse : MethodName := ⟨RX12, "parse", "()V"⟩
abbrev cX12_thing : ByteArray := prog_14_method_38_code
def yX12_thing : MethodName := ⟨RX12, "thing", "(I)V"⟩
abbrev cX12_sums : ByteArray := prog_14_method_39_code
def yX12_sums : MethodName := ⟨RX12, "sums", "(IIZ)V"⟩
abbrev cX12_both : ByteArray := prog_14_method_40_code
def yX12_both : MethodName := ⟨RX12, "both", "(IIII)V"⟩
abbrev cX12_factor : ByteArray := prog_14_method_41_code
def yX12_factor : MethodName := ⟨RX12, "factor", "(I)V"⟩
abbrev cX12_one : ByteArray := prog_14_method_42_code
def yX12_one : MethodName := ⟨RX12, "one", "(I)V"⟩
abbrev cX12_entry : ByteArray := prog_14_method_43_code
def yX12_entry : MethodName := ⟨RX12, "entry", "(IIZ)V"⟩
abbrev cX12_caseNumber : ByteArray := prog_14_method_44_code
def yX12_caseNumber : MethodName := ⟨RX12, "caseNumber", "(I)Z"⟩
abbrev cX12_arms : ByteArray := prog_14_method_45_code
def yX12_arms : MethodName := ⟨RX12, "arms", "(I)V"⟩
abbrev cX12_list : ByteArray := prog_14_method_46_code
def yX12_list : MethodName := ⟨RX12, "list", "(I)V"⟩
abbrev cX12_block : ByteArray := prog_14_method_47_code
def yX12_block : MethodName := ⟨RX12, "block", "(I)V"⟩
abbrev cX12_stat : ByteArray := prog_14_method_48_code
def yX12_stat : MethodName := ⟨RX12, "stat", "(I)V"⟩
abbrev cX12_telling : ByteArray := prog_14_method_49_code
def yX12_telling : MethodName := ⟨RX12, "telling", "(I)Z"⟩
abbrev cX12_tell : ByteArray := prog_14_method_50_code
def yX12_tell : MethodName := ⟨RX12, "tell", "(I)V"⟩
abbrev cX12_got : ByteArray := prog_14_method_51_code
def yX12_got : MethodName := ⟨RX12, "got", "(JI)I"⟩
abbrev cX12_named : ByteArray := prog_14_method_52_code
def yX12_named : MethodName := ⟨RX12, "named", "(I)V"⟩
abbrev cX12_label : ByteArray := prog_14_method_53_code
def yX12_label : MethodName := ⟨RX12, "label", "(IJI)V"⟩
abbrev cX12_isInArms : ByteArray := prog_14_method_54_code
def yX12_isInArms : MethodName := ⟨RX12, "isInArms", "()Z"⟩
abbrev cX12_ending : ByteArray := prog_14_method_55_code
def yX12_ending : MethodName := ⟨RX12, "ending", "(I)V"⟩
abbrev cX12_jump : ByteArray := prog_14_method_56_code
def yX12_jump : MethodName := ⟨RX12, "jump", "()V"⟩
abbrev cX12_throwing : ByteArray := prog_14_method_57_code
def yX12_throwing : MethodName := ⟨RX12, "throwing", "(I)V"⟩
abbrev cX12_asserted : ByteArray := prog_14_method_58_code
def yX12_asserted : MethodName := ⟨RX12, "asserted", "(I)V"⟩
abbrev cX12_branch : ByteArray := prog_14_method_59_code
def yX12_branch : MethodName := ⟨RX12, "branch", "(I)V"⟩
abbrev cX12_isJustTrue : ByteArray := prog_14_method_60_code
def yX12_isJustTrue : MethodName := ⟨RX12, "isJustTrue", "(I)Z"⟩
abbrev cX12_whiles : ByteArray := prog_14_method_61_code
def yX12_whiles : MethodName := ⟨RX12, "whiles", "(I)V"⟩
abbrev cX12_repeats : ByteArray := prog_14_method_62_code
def yX12_repeats : MethodName := ⟨RX12, "repeats", "(I)V"⟩
abbrev cX12_fors : ByteArray := prog_14_method_63_code
def yX12_fors : MethodName := ⟨RX12, "fors", "(I)V"⟩
abbrev cX12_forHead : ByteArray := prog_14_method_64_code
def yX12_forHead : MethodName := ⟨RX12, "forHead", "(I)V"⟩
abbrev cX12_forBehind : ByteArray := prog_14_method_65_code
def yX12_forBehind : MethodName := ⟨RX12, "forBehind", "(I)V"⟩
abbrev cX12_rows : ByteArray := prog_14_method_66_code
def yX12_rows : MethodName := ⟨RX12, "rows", "(I)V"⟩
abbrev cX12_lock : ByteArray := prog_14_method_67_code
def yX12_lock : MethodName := ⟨RX12, "lock", "(I)V"⟩
abbrev cX12_groups : ByteArray := prog_14_method_68_code
def yX12_groups : MethodName := ⟨RX12, "groups", "(I)V"⟩
abbrev cX12_trying : ByteArray := prog_14_method_69_code
def yX12_trying : MethodName := ⟨RX12, "trying", "(I)V"⟩
abbrev cX12_endTry : ByteArray := prog_14_method_70_code
def yX12_endTry : MethodName := ⟨RX12, "endTry", "(IZ)V"⟩
abbrev cX12_catching : ByteArray := prog_14_method_71_code
def yX12_catching : MethodName := ⟨RX12, "catching", "(I)V"⟩
abbrev cX12_read : ByteArray := prog_14_method_72_code
def yX12_read : MethodName := ⟨RX12, "read", "()I"⟩
abbrev cX12_fault : ByteArray := prog_14_method_73_code
def yX12_fault : MethodName := ⟨RX12, "fault", "()I"⟩
abbrev cX12_program : ByteArray := prog_14_method_74_code
def yX12_program : MethodName := ⟨RX12, "program", "(I)I"⟩
abbrev cX12_row : ByteArray := prog_14_method_75_code
def yX12_row : MethodName := ⟨RX12, "row", "(II)V"⟩
abbrev cX12_record : ByteArray := prog_14_method_76_code
def yX12_record : MethodName := ⟨RX12, "record", "(IIII)I"⟩
abbrev cX12_put : ByteArray := prog_14_method_77_code
def yX12_put : MethodName := ⟨RX12, "put", "(I)V"⟩
abbrev cX12_take : ByteArray := prog_14_method_78_code
def yX12_take : MethodName := ⟨RX12, "take", "()I"⟩
abbrev cX12_raise : ByteArray := prog_14_method_79_code
def yX12_raise : MethodName := ⟨RX12, "raise", "(II)V"⟩
abbrev cX12_closeAll : ByteArray := prog_14_method_80_code
def yX12_closeAll : MethodName := ⟨RX12, "closeAll", "(I)V"⟩
abbrev cX12_finals : ByteArray := prog_14_method_81_code
def yX12_finals : MethodName := ⟨RX12, "finals", "(I)Z"⟩
abbrev cX12_isCaught : ByteArray := prog_14_method_82_code
def yX12_isCaught : MethodName := ⟨RX12, "isCaught", "(I)Z"⟩
abbrev cX12_leave : ByteArray := prog_14_method_83_code
def yX12_leave : MethodName := ⟨RX12, "leave", "()V"⟩
abbrev cX12_step : ByteArray := prog_14_method_84_code
def yX12_step : MethodName := ⟨RX12, "step", "()V"⟩
abbrev cX12_compute : ByteArray := prog_14_method_85_code
def yX12_compute : MethodName := ⟨RX12, "compute", "(III)I"⟩
abbrev cX12_caseOf : ByteArray := prog_14_method_86_code
def yX12_caseOf : MethodName := ⟨RX12, "caseOf", "(II)I"⟩
abbrev cX12_act : ByteArray := prog_14_method_87_code
def yX12_act : MethodName := ⟨RX12, "act", "(I)V"⟩
abbrev cX12_ends : ByteArray := prog_14_method_88_code
def yX12_ends : MethodName := ⟨RX12, "ends", "(II)V"⟩
abbrev cX12_others : ByteArray := prog_14_method_89_code
def yX12_others : MethodName := ⟨RX12, "others", "(II)V"⟩
abbrev cX12_goOn : ByteArray := prog_14_method_90_code
def yX12_goOn : MethodName := ⟨RX12, "goOn", "(I)V"⟩
abbrev cX12_run : ByteArray := prog_14_method_91_code
def yX12_run : MethodName := ⟨RX12, "run", "(II)I"⟩
abbrev cX12_ran : ByteArray := prog_14_method_92_code
def yX12_ran : MethodName := ⟨RX12, "ran", "(I)I"⟩
abbrev cX12_trace : ByteArray := prog_14_method_93_code
def yX12_trace : MethodName := ⟨RX12, "trace", "(II)I"⟩
abbrev cX12_suppressed : ByteArray := prog_14_method_94_code
def yX12_suppressed : MethodName := ⟨RX12, "suppressed", "(II)I"⟩
abbrev cX12_rounds : ByteArray := prog_14_method_95_code
def yX12_rounds : MethodName := ⟨RX12, "rounds", "(II)I"⟩
def RJ9 : String := "java/lang/Math"
def TJ9 : u_T := fun k => match k with
  | _ => ("", "", "", false)
def tyJ9 : Nat → FieldType := fun k => match k with
  | _ => .int
abbrev wsJ90 : List Cond := u_ws RJ9 TJ9 0
theorem nmJ9 : ∀ a, a < 0 → ∀ b, b < 0 → a ≠ b → (TJ9 a).2.1 ≠ (TJ9 b).2.1 := by decide +kernel
theorem tyJ9_ok : ∀ k, k < 0 → parseFieldDescriptor (TJ9 k).2.2.1 = some (tyJ9 k) := by decide +kernel
abbrev cJ9_max_7cf53 : ByteArray := prog_17_method_65_code
def yJ9_max_7cf53 : MethodName := ⟨RJ9, "max", "(II)I"⟩
abbrev cJ9_min_7cf53 : ByteArray := prog_17_method_69_code
def yJ9_min_7cf53 : MethodName := ⟨RJ9, "min", "(II)I"⟩
def RJ0 : String := "java/lang/String"
def TJ0 : u_T := fun k => match k with
  | _ => ("", "", "", false)
def tyJ0 : Nat → FieldType := fun k => match k with
  | _ => .int
abbrev wsJ00 : List Cond := u_ws RJ0 TJ0 0
theorem nmJ0 : ∀ a, a < 0 → ∀ b, b < 0 → a ≠ b → (TJ0 a).2.1 ≠ (TJ0 b).2.1 := by decide +kernel
theorem tyJ0_ok : ∀ k, k < 0 → parseFieldDescriptor (TJ0 k).2.2.1 = some (tyJ0 k) := by decide +kernel
abbrev cJ0_length_8abf5 : ByteArray := prog_19_method_54_code
def yJ0_length_8abf5 : MethodName := ⟨RJ0, "length", "()I"⟩
abbrev cJ0_charAt_5068e : ByteArray := prog_19_method_56_code
def yJ0_charAt_5068e : MethodName := ⟨RJ0, "charAt", "(I)C"⟩
abbrev cJ0_coder_7d493 : ByteArray := prog_19_method_152_code
def yJ0_coder_7d493 : MethodName := ⟨RJ0, "coder", "()B"⟩
abbrev cJ0_isLatin1_aae02 : ByteArray := prog_19_method_154_code
def yJ0_isLatin1_aae02 : MethodName := ⟨RJ0, "isLatin1", "()Z"⟩
abbrev cJ0_checkIndex_df160 : ByteArray := prog_19_method_155_code
def yJ0_checkIndex_df160 : MethodName := ⟨RJ0, "checkIndex", "(II)V"⟩
def RJ1 : String := "java/lang/StringLatin1"
def TJ1 : u_T := fun k => match k with
  | _ => ("", "", "", false)
def tyJ1 : Nat → FieldType := fun k => match k with
  | _ => .int
abbrev wsJ10 : List Cond := u_ws RJ1 TJ1 0
theorem nmJ1 : ∀ a, a < 0 → ∀ b, b < 0 → a ≠ b → (TJ1 a).2.1 ≠ (TJ1 b).2.1 := by decide +kernel
theorem tyJ1_ok : ∀ k, k < 0 → parseFieldDescriptor (TJ1 k).2.2.1 = some (tyJ1 k) := by decide +kernel
abbrev cJ1_charAt_3b067 : ByteArray := prog_20_method_2_code
def yJ1_charAt_3b067 : MethodName := ⟨RJ1, "charAt", "([BI)C"⟩
def RJ2 : String := "java/lang/StringUTF16"
def TJ2 : u_T := fun k => match k with
  | _ => ("", "", "", false)
def tyJ2 : Nat → FieldType := fun k => match k with
  | _ => .int
abbrev wsJ20 : List Cond := u_ws RJ2 TJ2 0
theorem nmJ2 : ∀ a, a < 0 → ∀ b, b < 0 → a ≠ b → (TJ2 a).2.1 ≠ (TJ2 b).2.1 := by decide +kernel
theorem tyJ2_ok : ∀ k, k < 0 → parseFieldDescriptor (TJ2 k).2.2.1 = some (tyJ2 k) := by decide +kernel
abbrev cJ2_getChar_3b067 : ByteArray := prog_21_method_5_code
def yJ2_getChar_3b067 : MethodName := ⟨RJ2, "getChar", "([BI)C"⟩
abbrev cJ2_length_9d52b : ByteArray := prog_21_method_6_code
def yJ2_length_9d52b : MethodName := ⟨RJ2, "length", "([B)I"⟩
abbrev cJ2_charAt_3b067 : ByteArray := prog_21_method_83_code
def yJ2_charAt_3b067 : MethodName := ⟨RJ2, "charAt", "([BI)C"⟩
abbrev cJ2_checkIndex_2214a : ByteArray := prog_21_method_91_code
def yJ2_checkIndex_2214a : MethodName := ⟨RJ2, "checkIndex", "(I[B)V"⟩
def RJ3 : String := "jdk/internal/util/Preconditions"
def TJ3 : u_T := fun k => match k with
  | _ => ("", "", "", false)
def tyJ3 : Nat → FieldType := fun k => match k with
  | _ => .int
abbrev wsJ30 : List Cond := u_ws RJ3 TJ3 0
theorem nmJ3 : ∀ a, a < 0 → ∀ b, b < 0 → a ≠ b → (TJ3 a).2.1 ≠ (TJ3 b).2.1 := by decide +kernel
theorem tyJ3_ok : ∀ k, k < 0 → parseFieldDescriptor (TJ3 k).2.2.1 = some (tyJ3 k) := by decide +kernel
abbrev cJ3_checkIndex_8e157 : ByteArray := prog_23_method_11_code
def yJ3_checkIndex_8e157 : MethodName := ⟨RJ3, "checkIndex", "(IILjava/util/function/BiFunction;)I"⟩
def RL : String := "StatementRules2Law"
abbrev cL_rounds : ByteArray := method_3_code
def yL_rounds : MethodName := ⟨RL, "rounds", "(LStatementRules2;II[J)I"⟩
abbrev cL_law : ByteArray := code
def yL_law : MethodName := ⟨RL, "law", "([I)Z"⟩
theorem inJ9 : ∀ w ∈ wsJ90, w ∈ lw_tbl := by decide +kernel
theorem inJ0 : ∀ w ∈ wsJ00, w ∈ lw_tbl := by decide +kernel
theorem inJ1 : ∀ w ∈ wsJ10, w ∈ lw_tbl := by decide +kernel
theorem inJ2 : ∀ w ∈ wsJ20, w ∈ lw_tbl := by decide +kernel
theorem inJ3 : ∀ w ∈ wsJ30, w ∈ lw_tbl := by decide +kernel
abbrev vwCl : List vw_C := [(RX0, TX0, 13), (RX2, TX2, 8), (RX3, TX3, 20), (RX4, TX4, 4), (RX5, TX5, 17), (RX6, TX6, 6), (RX7, TX7, 11), (RX8, TX8, 5), (RX9, TX9, 8), (RX10, TX10, 6), (RX11, TX11, 9), (RX12, TX12, 116)]
end
section
theorem dX0_init_0 : decode cX0_init 0 = .ok (.aload_n 0, 1) := by decide +kernel
theorem dX0_init_1 : decode cX0_init 1 = .ok (.invokespecial 3, 3) := by decide +kernel
theorem dX0_init_4 : decode cX0_init 4 = .ok (.aload_n 0, 1) := by decide +kernel
theorem dX0_init_5 : decode cX0_init 5 = .ok (.sipush 1200, 3) := by decide +kernel
theorem dX0_init_8 : decode cX0_init 8 = .ok (.newarray .int, 2) := by decide +kernel
theorem dX0_init_10 : decode cX0_init 10 = .ok (.putfield 9, 3) := by decide +kernel
theorem dX0_init_13 : decode cX0_init 13 = .ok (.aload_n 0, 1) := by decide +kernel
theorem dX0_init_14 : decode cX0_init 14 = .ok (.sipush 1200, 3) := by decide +kernel
theorem dX0_init_17 : decode cX0_init 17 = .ok (.newarray .int, 2) := by decide +kernel
theorem dX0_init_19 : decode cX0_init 19 = .ok (.putfield 15, 3) := by decide +kernel
theorem dX0_init_22 : decode cX0_init 22 = .ok (.aload_n 0, 1) := by decide +kernel
theorem dX0_init_23 : decode cX0_init 23 = .ok (.sipush 1024, 3) := by decide +kernel
theorem dX0_init_26 : decode cX0_init 26 = .ok (.newarray .int, 2) := by decide +kernel
theorem dX0_init_28 : decode cX0_init 28 = .ok (.putfield 18, 3) := by decide +kernel
theorem dX0_init_31 : decode cX0_init 31 = .ok (.aload_n 0, 1) := by decide +kernel
theorem dX0_init_32 : decode cX0_init 32 = .ok (.sipush 320, 3) := by decide +kernel
theorem dX0_init_35 : decode cX0_init 35 = .ok (.newarray .int, 2) := by decide +kernel
theorem dX0_init_37 : decode cX0_init 37 = .ok (.putfield 21, 3) := by decide +kernel
theorem dX0_init_40 : decode cX0_init 40 = .ok (.aload_n 0, 1) := by decide +kernel
theorem dX0_init_41 : decode cX0_init 41 = .ok (.sipush 320, 3) := by decide +kernel
theorem dX0_init_44 : decode cX0_init 44 = .ok (.newarray .int, 2) := by decide +kernel
theorem dX0_init_46 : decode cX0_init 46 = .ok (.putfield 24, 3) := by decide +kernel
theorem dX0_init_49 : decode cX0_init 49 = .ok (.return_, 1) := by decide +kernel
theorem dX0_clear_0 : decode cX0_clear 0 = .ok (.aload_n 0, 1) := by decide +kernel
theorem dX0_clear_1 : decode cX0_clear 1 = .ok (.iconst 0, 1) := by decide +kernel
theorem dX0_clear_2 : decode cX0_clear 2 = .ok (.putfield 27, 3) := by decide +kernel
theorem dX0_clear_5 : decode cX0_clear 5 = .ok (.aload_n 0, 1) := by decide +kernel
theorem dX0_clear_6 : decode cX0_clear 6 = .ok (.iconst 0, 1) := by decide +kernel
theorem dX0_clear_7 : decode cX0_clear 7 = .ok (.putfield 31, 3) := by decide +kernel
theorem dX0_clear_10 : decode cX0_clear 10 = .ok (.aload_n 0, 1) := by decide +kernel
theorem dX0_clear_11 : decode cX0_clear 11 = .ok (.iconst 0, 1) := by decide +kernel
theorem dX0_clear_12 : decode cX0_clear 12 = .ok (.putfield 34, 3) := by decide +kernel
theorem dX0_clear_15 : decode cX0_clear 15 = .ok (.aload_n 0, 1) := by decide +kernel
theorem dX0_clear_16 : decode cX0_clear 16 = .ok (.iconst 0, 1) := by decide +kernel
theorem dX0_clear_17 : decode cX0_clear 17 = .ok (.putfield 37, 3) := by decide +kernel
theorem dX0_clear_20 : decode cX0_clear 20 = .ok (.aload_n 0, 1) := by decide +kernel
theorem dX0_clear_21 : decode cX0_clear 21 = .ok (.iconst 0, 1) := by decide +kernel
theorem dX0_clear_22 : decode cX0_clear 22 = .ok (.putfield 40, 3) := by decide +kernel
theorem dX0_clear_25 : decode cX0_clear 25 = .ok (.aload_n 0, 1) := by decide +kernel
theorem dX0_clear_26 : decode cX0_clear 26 = .ok (.iconst 0, 1) := by decide +kernel
theorem dX0_clear_27 : decode cX0_clear 27 = .ok (.putfield 43, 3) := by decide +kernel
theorem dX0_clear_30 : decode cX0_clear 30 = .ok (.aload_n 0, 1) := by decide +kernel
theorem dX0_clear_31 : decode cX0_clear 31 = .ok (.iconst 0, 1) := by decide +kernel
theorem dX0_clear_32 : decode cX0_clear 32 = .ok (.putfield 46, 3) := by decide +kernel
theorem dX0_clear_35 : decode cX0_clear 35 = .ok (.aload_n 0, 1) := by decide +kernel
theorem dX0_clear_36 : decode cX0_clear 36 = .ok (.iconst 0, 1) := by decide +kernel
theorem dX0_clear_37 : decode cX0_clear 37 = .ok (.putfield 49, 3) := by decide +kernel
theorem dX0_clear_40 : decode cX0_clear 40 = .ok (.return_, 1) := by decide +kernel
theorem dX0_add_0 : decode cX0_add 0 = .ok (.aload_n 0, 1) := by decide +kernel
theorem dX0_add_1 : decode cX0_add 1 = .ok (.getfield 9, 3) := by decide +kernel
theorem dX0_add_4 : decode cX0_add 4 = .ok (.aload_n 0, 1) := by decide +kernel
theorem dX0_add_5 : decode cX0_add 5 = .ok (.getfield 27, 3) := by decide +kernel
theorem dX0_add_8 : decode cX0_add 8 = .ok (.iload_n 1, 1) := by decide +kernel
theorem dX0_add_9 : decode cX0_add 9 = .ok (.invokestatic 53, 3) := by decide +kernel
theorem dX0_add_12 : decode cX0_add 12 = .ok (.aload_n 0, 1) := by decide +kernel
theorem dX0_add_13 : decode cX0_add 13 = .ok (.getfield 15, 3) := by decide +kernel
theorem dX0_add_16 : decode cX0_add 16 = .ok (.aload_n 0, 1) := by decide +kernel
theorem dX0_add_17 : decode cX0_add 17 = .ok (.getfield 27, 3) := by decide +kernel
theorem dX0_add_20 : decode cX0_add 20 = .ok (.iload_n 2, 1) := by decide +kernel
theorem dX0_add_21 : decode cX0_add 21 = .ok (.invokestatic 53, 3) := by decide +kernel
theorem dX0_add_24 : decode cX0_add 24 = .ok (.aload_n 0, 1) := by decide +kernel
theorem dX0_add_25 : decode cX0_add 25 = .ok (.dup, 1) := by decide +kernel
theorem dX0_add_26 : decode cX0_add 26 = .ok (.getfield 27, 3) := by decide +kernel
theorem dX0_add_29 : decode cX0_add 29 = .ok (.iconst 1, 1) := by decide +kernel
theorem dX0_add_30 : decode cX0_add 30 = .ok (.iadd, 1) := by decide +kernel
theorem dX0_add_31 : decode cX0_add 31 = .ok (.putfield 27, 3) := by decide +kernel
theorem dX0_add_34 : decode cX0_add 34 = .ok (.return_, 1) := by decide +kernel
theorem dX0_newCells_0 : decode cX0_newCells 0 = .ok (.aload_n 0, 1) := by decide +kernel
theorem dX0_newCells_1 : decode cX0_newCells 1 = .ok (.dup, 1) := by decide +kernel
theorem dX0_newCells_2 : decode cX0_newCells 2 = .ok (.getfield 37, 3) := by decide +kernel
theorem dX0_newCells_5 : decode cX0_newCells 5 = .ok (.iload_n 1, 1) := by decide +kernel
theorem dX0_newCells_6 : decode cX0_newCells 6 = .ok (.iadd, 1) := by decide +kernel
theorem dX0_newCells_7 : decode cX0_newCells 7 = .ok (.putfield 37, 3) := by decide +kernel
theorem dX0_newCells_10 : decode cX0_newCells 10 = .ok (.aload_n 0, 1) := by decide +kernel
theorem dX0_newCells_11 : decode cX0_newCells 11 = .ok (.getfield 37, 3) := by decide +kernel
theorem dX0_newCells_14 : decode cX0_newCells 14 = .ok (.iload_n 1, 1) := by decide +kernel
theorem dX0_newCells_15 : decode cX0_newCells 15 = .ok (.isub, 1) := by decide +kernel
theorem dX0_newCells_16 : decode cX0_newCells 16 = .ok (.ireturn, 1) := by decide +kernel
theorem dX1_init_0 : decode cX1_init 0 = .ok (.aload_n 0, 1) := by decide +kernel
theorem dX1_init_1 : decode cX1_init 1 = .ok (.invokespecial 3, 3) := by decide +kernel
theorem dX1_init_4 : decode cX1_init 4 = .ok (.aload_n 0, 1) := by decide +kernel
theorem dX1_init_5 : decode cX1_init 5 = .ok (.new 9, 3) := by decide +kernel
theorem dX1_init_8 : decode cX1_init 8 = .ok (.dup, 1) := by decide +kernel
theorem dX1_init_9 : decode cX1_init 9 = .ok (.invokespecial 11, 3) := by decide +kernel
theorem dX1_init_12 : decode cX1_init 12 = .ok (.putfield 12, 3) := by decide +kernel
theorem dX1_init_15 : decode cX1_init 15 = .ok (.aload_n 0, 1) := by decide +kernel
theorem dX1_init_16 : decode cX1_init 16 = .ok (.aload_n 1, 1) := by decide +kernel
theorem dX1_init_17 : decode cX1_init 17 = .ok (.putfield 18, 3) := by decide +kernel
theorem dX1_init_20 : decode cX1_init 20 = .ok (.aload_n 0, 1) := by decide +kernel
theorem dX1_init_21 : decode cX1_init 21 = .ok (.aload_n 2, 1) := by decide +kernel
theorem dX1_init_22 : decode cX1_init 22 = .ok (.putfield 22, 3) := by decide +kernel
theorem dX1_init_25 : decode cX1_init 25 = .ok (.aload_n 0, 1) := by decide +kernel
theorem dX1_init_26 : decode cX1_init 26 = .ok (.aload_n 3, 1) := by decide +kernel
theorem dX1_init_27 : decode cX1_init 27 = .ok (.putfield 26, 3) := by decide +kernel
theorem dX1_init_30 : decode cX1_init 30 = .ok (.return_, 1) := by decide +kernel
theorem dX1_found_0 : decode cX1_found 0 = .ok (.aload_n 0, 1) := by decide +kernel
theorem dX1_found_1 : decode cX1_found 1 = .ok (.getfield 18, 3) := by decide +kernel
theorem dX1_found_4 : decode cX1_found 4 = .ok (.getfield 53, 3) := by decide +kernel
theorem dX1_found_7 : decode cX1_found 7 = .ok (.iload_n 1, 1) := by decide +kernel
theorem dX1_found_8 : decode cX1_found 8 = .ok (.if_icmp .ne 7, 3) := by decide +kernel
theorem dX1_found_11 : decode cX1_found 11 = .ok (.iconst 1, 1) := by decide +kernel
theorem dX1_found_12 : decode cX1_found 12 = .ok (.goto 4, 3) := by decide +kernel
theorem dX1_found_15 : decode cX1_found 15 = .ok (.iconst 0, 1) := by decide +kernel
theorem dX1_found_16 : decode cX1_found 16 = .ok (.ireturn, 1) := by decide +kernel
theorem dX1_expect_0 : decode cX1_expect 0 = .ok (.aload_n 0, 1) := by decide +kernel
theorem dX1_expect_1 : decode cX1_expect 1 = .ok (.iload_n 1, 1) := by decide +kernel
theorem dX1_expect_2 : decode cX1_expect 2 = .ok (.invokevirtual 42, 3) := by decide +kernel
theorem dX1_expect_5 : decode cX1_expect 5 = .ok (.ifCond .eq 13, 3) := by decide +kernel
theorem dX1_expect_8 : decode cX1_expect 8 = .ok (.aload_n 0, 1) := by decide +kernel
theorem dX1_expect_9 : decode cX1_expect 9 = .ok (.getfield 18, 3) := by decide +kernel
theorem dX1_expect_12 : decode cX1_expect 12 = .ok (.invokevirtual 56, 3) := by decide +kernel
theorem dX1_expect_15 : decode cX1_expect 15 = .ok (.goto 7, 3) := by decide +kernel
theorem dX1_expect_22 : decode cX1_expect 22 = .ok (.return_, 1) := by decide +kernel
theorem dX3_init_0 : decode cX3_init 0 = .ok (.aload_n 0, 1) := by decide +kernel
theorem dX3_init_1 : decode cX3_init 1 = .ok (.invokespecial 3, 3) := by decide +kernel
theorem dX3_init_4 : decode cX3_init 4 = .ok (.aload_n 0, 1) := by decide +kernel
theorem dX3_init_5 : decode cX3_init 5 = .ok (.sipush 720, 3) := by decide +kernel
theorem dX3_init_8 : decode cX3_init 8 = .ok (.newarray .int, 2) := by decide +kernel
theorem dX3_init_10 : decode cX3_init 10 = .ok (.putfield 9, 3) := by decide +kernel
theorem dX3_init_13 : decode cX3_init 13 = .ok (.aload_n 0, 1) := by decide +kernel
theorem dX3_init_14 : decode cX3_init 14 = .ok (.sipush 600, 3) := by decide +kernel
theorem dX3_init_17 : decode cX3_init 17 = .ok (.newarray .int, 2) := by decide +kernel
theorem dX3_init_19 : decode cX3_init 19 = .ok (.putfield 15, 3) := by decide +kernel
theorem dX3_init_22 : decode cX3_init 22 = .ok (.aload_n 0, 1) := by decide +kernel
theorem dX3_init_23 : decode cX3_init 23 = .ok (.bipush 24, 2) := by decide +kernel
theorem dX3_init_25 : decode cX3_init 25 = .ok (.anewarray 18, 3) := by decide +kernel
theorem dX3_init_28 : decode cX3_init 28 = .ok (.putfield 20, 3) := by decide +kernel
theorem dX3_init_31 : decode cX3_init 31 = .ok (.aload_n 0, 1) := by decide +kernel
theorem dX3_init_32 : decode cX3_init 32 = .ok (.bipush 24, 2) := by decide +kernel
theorem dX3_init_34 : decode cX3_init 34 = .ok (.anewarray 24, 3) := by decide +kernel
theorem dX3_init_37 : decode cX3_init 37 = .ok (.putfield 26, 3) := by decide +kernel
theorem dX3_init_40 : decode cX3_init 40 = .ok (.aload_n 0, 1) := by decide +kernel
theorem dX3_init_41 : decode cX3_init 41 = .ok (.sipush 320, 3) := by decide +kernel
theorem dX3_init_44 : decode cX3_init 44 = .ok (.newarray .int, 2) := by decide +kernel
theorem dX3_init_46 : decode cX3_init 46 = .ok (.putfield 30, 3) := by decide +kernel
theorem dX3_init_49 : decode cX3_init 49 = .ok (.aload_n 0, 1) := by decide +kernel
theorem dX3_init_50 : decode cX3_init 50 = .ok (.sipush 400, 3) := by decide +kernel
theorem dX3_init_53 : decode cX3_init 53 = .ok (.newarray .int, 2) := by decide +kernel
theorem dX3_init_55 : decode cX3_init 55 = .ok (.putfield 33, 3) := by decide +kernel
theorem dX3_init_58 : decode cX3_init 58 = .ok (.aload_n 0, 1) := by decide +kernel
theorem dX3_init_59 : decode cX3_init 59 = .ok (.aload_n 1, 1) := by decide +kernel
theorem dX3_init_60 : decode cX3_init 60 = .ok (.putfield 36, 3) := by decide +kernel
theorem dX3_init_63 : decode cX3_init 63 = .ok (.aload_n 0, 1) := by decide +kernel
theorem dX3_init_64 : decode cX3_init 64 = .ok (.aload_n 2, 1) := by decide +kernel
theorem dX3_init_65 : decode cX3_init 65 = .ok (.putfield 40, 3) := by decide +kernel
theorem dX3_init_68 : decode cX3_init 68 = .ok (.return_, 1) := by decide +kernel
theorem dX4_init_0 : decode cX4_init 0 = .ok (.aload_n 0, 1) := by decide +kernel
theorem dX4_init_1 : decode cX4_init 1 = .ok (.invokespecial 1, 3) := by decide +kernel
theorem dX4_init_4 : decode cX4_init 4 = .ok (.aload_n 0, 1) := by decide +kernel
theorem dX4_init_5 : decode cX4_init 5 = .ok (.sipush 128, 3) := by decide +kernel
theorem dX4_init_8 : decode cX4_init 8 = .ok (.newarray .long, 2) := by decide +kernel
theorem dX4_init_10 : decode cX4_init 10 = .ok (.putfield 7, 3) := by decide +kernel
theorem dX4_init_13 : decode cX4_init 13 = .ok (.aload_n 0, 1) := by decide +kernel
theorem dX4_init_14 : decode cX4_init 14 = .ok (.sipush 128, 3) := by decide +kernel
theorem dX4_init_17 : decode cX4_init 17 = .ok (.newarray .int, 2) := by decide +kernel
theorem dX4_init_19 : decode cX4_init 19 = .ok (.putfield 13, 3) := by decide +kernel
theorem dX4_init_22 : decode cX4_init 22 = .ok (.aload_n 0, 1) := by decide +kernel
theorem dX4_init_23 : decode cX4_init 23 = .ok (.sipush 128, 3) := by decide +kernel
theorem dX4_init_26 : decode cX4_init 26 = .ok (.newarray .int, 2) := by decide +kernel
theorem dX4_init_28 : decode cX4_init 28 = .ok (.putfield 17, 3) := by decide +kernel
theorem dX4_init_31 : decode cX4_init 31 = .ok (.return_, 1) := by decide +kernel
theorem dX4_add_0 : decode cX4_add 0 = .ok (.aload_n 0, 1) := by decide +kernel
theorem dX4_add_1 : decode cX4_add 1 = .ok (.getfield 20, 3) := by decide +kernel
theorem dX4_add_4 : decode cX4_add 4 = .ok (.aload_n 0, 1) := by decide +kernel
theorem dX4_add_5 : decode cX4_add 5 = .ok (.getfield 7, 3) := by decide +kernel
theorem dX4_add_8 : decode cX4_add 8 = .ok (.arraylength, 1) := by decide +kernel
theorem dX4_add_9 : decode cX4_add 9 = .ok (.if_icmp .ge 44, 3) := by decide +kernel
theorem dX4_add_12 : decode cX4_add 12 = .ok (.aload_n 0, 1) := by decide +kernel
theorem dX4_add_13 : decode cX4_add 13 = .ok (.getfield 7, 3) := by decide +kernel
theorem dX4_add_16 : decode cX4_add 16 = .ok (.aload_n 0, 1) := by decide +kernel
theorem dX4_add_17 : decode cX4_add 17 = .ok (.getfield 20, 3) := by decide +kernel
theorem dX4_add_20 : decode cX4_add 20 = .ok (.lload_n 1, 1) := by decide +kernel
theorem dX4_add_21 : decode cX4_add 21 = .ok (.lastore, 1) := by decide +kernel
theorem dX4_add_22 : decode cX4_add 22 = .ok (.aload_n 0, 1) := by decide +kernel
theorem dX4_add_23 : decode cX4_add 23 = .ok (.getfield 13, 3) := by decide +kernel
theorem dX4_add_26 : decode cX4_add 26 = .ok (.aload_n 0, 1) := by decide +kernel
theorem dX4_add_27 : decode cX4_add 27 = .ok (.getfield 20, 3) := by decide +kernel
theorem dX4_add_30 : decode cX4_add 30 = .ok (.iload_n 3, 1) := by decide +kernel
theorem dX4_add_31 : decode cX4_add 31 = .ok (.iastore, 1) := by decide +kernel
theorem dX4_add_32 : decode cX4_add 32 = .ok (.aload_n 0, 1) := by decide +kernel
theorem dX4_add_33 : decode cX4_add 33 = .ok (.getfield 17, 3) := by decide +kernel
theorem dX4_add_36 : decode cX4_add 36 = .ok (.aload_n 0, 1) := by decide +kernel
theorem dX4_add_37 : decode cX4_add 37 = .ok (.getfield 20, 3) := by decide +kernel
theorem dX4_add_40 : decode cX4_add 40 = .ok (.iload 4, 2) := by decide +kernel
theorem dX4_add_42 : decode cX4_add 42 = .ok (.iastore, 1) := by decide +kernel
theorem dX4_add_43 : decode cX4_add 43 = .ok (.aload_n 0, 1) := by decide +kernel
theorem dX4_add_44 : decode cX4_add 44 = .ok (.dup, 1) := by decide +kernel
theorem dX4_add_45 : decode cX4_add 45 = .ok (.getfield 20, 3) := by decide +kernel
theorem dX4_add_48 : decode cX4_add 48 = .ok (.iconst 1, 1) := by decide +kernel
theorem dX4_add_49 : decode cX4_add 49 = .ok (.iadd, 1) := by decide +kernel
theorem dX4_add_50 : decode cX4_add 50 = .ok (.putfield 20, 3) := by decide +kernel
theorem dX4_add_53 : decode cX4_add 53 = .ok (.return_, 1) := by decide +kernel
theorem dX5_init_0 : decode cX5_init 0 = .ok (.aload_n 0, 1) := by decide +kernel
theorem dX5_init_1 : decode cX5_init 1 = .ok (.invokespecial 3, 3) := by decide +kernel
theorem dX5_init_4 : decode cX5_init 4 = .ok (.return_, 1) := by decide +kernel
theorem dX5_isLoop_0 : decode cX5_isLoop 0 = .ok (.aload_n 0, 1) := by decide +kernel
theorem dX5_isLoop_1 : decode cX5_isLoop 1 = .ok (.getfield 9, 3) := by decide +kernel
theorem dX5_isLoop_4 : decode cX5_isLoop 4 = .ok (.sipush 205, 3) := by decide +kernel
theorem dX5_isLoop_7 : decode cX5_isLoop 7 = .ok (.if_icmp .eq 33, 3) := by decide +kernel
theorem dX5_isLoop_10 : decode cX5_isLoop 10 = .ok (.aload_n 0, 1) := by decide +kernel
theorem dX5_isLoop_11 : decode cX5_isLoop 11 = .ok (.getfield 9, 3) := by decide +kernel
theorem dX5_isLoop_14 : decode cX5_isLoop 14 = .ok (.sipush 206, 3) := by decide +kernel
theorem dX5_isLoop_17 : decode cX5_isLoop 17 = .ok (.if_icmp .eq 23, 3) := by decide +kernel
theorem dX5_isLoop_20 : decode cX5_isLoop 20 = .ok (.aload_n 0, 1) := by decide +kernel
theorem dX5_isLoop_21 : decode cX5_isLoop 21 = .ok (.getfield 9, 3) := by decide +kernel
theorem dX5_isLoop_24 : decode cX5_isLoop 24 = .ok (.sipush 207, 3) := by decide +kernel
theorem dX5_isLoop_27 : decode cX5_isLoop 27 = .ok (.if_icmp .eq 13, 3) := by decide +kernel
theorem dX5_isLoop_30 : decode cX5_isLoop 30 = .ok (.aload_n 0, 1) := by decide +kernel
theorem dX5_isLoop_31 : decode cX5_isLoop 31 = .ok (.getfield 9, 3) := by decide +kernel
theorem dX5_isLoop_34 : decode cX5_isLoop 34 = .ok (.sipush 304, 3) := by decide +kernel
theorem dX5_isLoop_37 : decode cX5_isLoop 37 = .ok (.if_icmp .ne 7, 3) := by decide +kernel
theorem dX5_isLoop_44 : decode cX5_isLoop 44 = .ok (.iconst 0, 1) := by decide +kernel
theorem dX5_isLoop_45 : decode cX5_isLoop 45 = .ok (.ireturn, 1) := by decide +kernel
theorem dX5_hasOneBody_0 : decode cX5_hasOneBody 0 = .ok (.aload_n 0, 1) := by decide +kernel
theorem dX5_hasOneBody_1 : decode cX5_hasOneBody 1 = .ok (.invokevirtual 15, 3) := by decide +kernel
theorem dX5_hasOneBody_4 : decode cX5_hasOneBody 4 = .ok (.ifCond .ne 33, 3) := by decide +kernel
theorem dX5_hasOneBody_7 : decode cX5_hasOneBody 7 = .ok (.aload_n 0, 1) := by decide +kernel
theorem dX5_hasOneBody_8 : decode cX5_hasOneBody 8 = .ok (.getfield 9, 3) := by decide +kernel
theorem dX5_hasOneBody_11 : decode cX5_hasOneBody 11 = .ok (.sipush 303, 3) := by decide +kernel
theorem dX5_hasOneBody_14 : decode cX5_hasOneBody 14 = .ok (.if_icmp .eq 23, 3) := by decide +kernel
theorem dX5_hasOneBody_17 : decode cX5_hasOneBody 17 = .ok (.aload_n 0, 1) := by decide +kernel
theorem dX5_hasOneBody_18 : decode cX5_hasOneBody 18 = .ok (.getfield 9, 3) := by decide +kernel
theorem dX5_hasOneBody_21 : decode cX5_hasOneBody 21 = .ok (.sipush 203, 3) := by decide +kernel
theorem dX5_hasOneBody_24 : decode cX5_hasOneBody 24 = .ok (.if_icmp .eq 13, 3) := by decide +kernel
theorem dX5_hasOneBody_27 : decode cX5_hasOneBody 27 = .ok (.aload_n 0, 1) := by decide +kernel
theorem dX5_hasOneBody_28 : decode cX5_hasOneBody 28 = .ok (.getfield 9, 3) := by decide +kernel
theorem dX5_hasOneBody_31 : decode cX5_hasOneBody 31 = .ok (.sipush 204, 3) := by decide +kernel
theorem dX5_hasOneBody_34 : decode cX5_hasOneBody 34 = .ok (.if_icmp .ne 7, 3) := by decide +kernel
theorem dX5_hasOneBody_41 : decode cX5_hasOneBody 41 = .ok (.iconst 0, 1) := by decide +kernel
theorem dX5_hasOneBody_42 : decode cX5_hasOneBody 42 = .ok (.ireturn, 1) := by decide +kernel
theorem dX6_init_0 : decode cX6_init 0 = .ok (.aload_n 0, 1) := by decide +kernel
theorem dX6_init_1 : decode cX6_init 1 = .ok (.invokespecial 3, 3) := by decide +kernel
theorem dX6_init_4 : decode cX6_init 4 = .ok (.aload_n 0, 1) := by decide +kernel
theorem dX6_init_5 : decode cX6_init 5 = .ok (.sipush 400, 3) := by decide +kernel
theorem dX6_init_8 : decode cX6_init 8 = .ok (.anewarray 9, 3) := by decide +kernel
theorem dX6_init_11 : decode cX6_init 11 = .ok (.putfield 11, 3) := by decide +kernel
theorem dX6_init_14 : decode cX6_init 14 = .ok (.aload_n 0, 1) := by decide +kernel
theorem dX6_init_15 : decode cX6_init 15 = .ok (.sipush 160, 3) := by decide +kernel
theorem dX6_init_18 : decode cX6_init 18 = .ok (.newarray .int, 2) := by decide +kernel
theorem dX6_init_20 : decode cX6_init 20 = .ok (.putfield 17, 3) := by decide +kernel
theorem dX6_init_23 : decode cX6_init 23 = .ok (.return_, 1) := by decide +kernel
theorem dX6_clear_0 : decode cX6_clear 0 = .ok (.aload_n 0, 1) := by decide +kernel
theorem dX6_clear_1 : decode cX6_clear 1 = .ok (.iconst 0, 1) := by decide +kernel
theorem dX6_clear_2 : decode cX6_clear 2 = .ok (.putfield 21, 3) := by decide +kernel
theorem dX6_clear_5 : decode cX6_clear 5 = .ok (.aload_n 0, 1) := by decide +kernel
theorem dX6_clear_6 : decode cX6_clear 6 = .ok (.iconst 0, 1) := by decide +kernel
theorem dX6_clear_7 : decode cX6_clear 7 = .ok (.putfield 25, 3) := by decide +kernel
theorem dX6_clear_10 : decode cX6_clear 10 = .ok (.aload_n 0, 1) := by decide +kernel
theorem dX6_clear_11 : decode cX6_clear 11 = .ok (.iconst 0, 1) := by decide +kernel
theorem dX6_clear_12 : decode cX6_clear 12 = .ok (.putfield 28, 3) := by decide +kernel
theorem dX6_clear_15 : decode cX6_clear 15 = .ok (.aload_n 0, 1) := by decide +kernel
theorem dX6_clear_16 : decode cX6_clear 16 = .ok (.iconst (-1), 1) := by decide +kernel
theorem dX6_clear_17 : decode cX6_clear 17 = .ok (.putfield 31, 3) := by decide +kernel
theorem dX6_clear_20 : decode cX6_clear 20 = .ok (.return_, 1) := by decide +kernel
theorem dX6_push_0 : decode cX6_push 0 = .ok (.aload_n 0, 1) := by decide +kernel
theorem dX6_push_1 : decode cX6_push 1 = .ok (.getfield 21, 3) := by decide +kernel
theorem dX6_push_4 : decode cX6_push 4 = .ok (.aload_n 0, 1) := by decide +kernel
theorem dX6_push_5 : decode cX6_push 5 = .ok (.getfield 11, 3) := by decide +kernel
theorem dX6_push_8 : decode cX6_push 8 = .ok (.arraylength, 1) := by decide +kernel
theorem dX6_push_9 : decode cX6_push 9 = .ok (.iconst 1, 1) := by decide +kernel
theorem dX6_push_10 : decode cX6_push 10 = .ok (.isub, 1) := by decide +kernel
theorem dX6_push_11 : decode cX6_push 11 = .ok (.invokestatic 34, 3) := by decide +kernel
theorem dX6_push_14 : decode cX6_push 14 = .ok (.istore 4, 2) := by decide +kernel
theorem dX6_push_16 : decode cX6_push 16 = .ok (.aload_n 0, 1) := by decide +kernel
theorem dX6_push_17 : decode cX6_push 17 = .ok (.getfield 11, 3) := by decide +kernel
theorem dX6_push_20 : decode cX6_push 20 = .ok (.iload 4, 2) := by decide +kernel
theorem dX6_push_22 : decode cX6_push 22 = .ok (.aaload, 1) := by decide +kernel
theorem dX6_push_23 : decode cX6_push 23 = .ok (.astore 5, 2) := by decide +kernel
theorem dX6_push_25 : decode cX6_push 25 = .ok (.aload 5, 2) := by decide +kernel
theorem dX6_push_27 : decode cX6_push 27 = .ok (.ifnonnull 21, 3) := by decide +kernel
theorem dX6_push_30 : decode cX6_push 30 = .ok (.new 9, 3) := by decide +kernel
theorem dX6_push_33 : decode cX6_push 33 = .ok (.dup, 1) := by decide +kernel
theorem dX6_push_34 : decode cX6_push 34 = .ok (.invokespecial 40, 3) := by decide +kernel
theorem dX6_push_37 : decode cX6_push 37 = .ok (.astore 5, 2) := by decide +kernel
theorem dX6_push_39 : decode cX6_push 39 = .ok (.aload_n 0, 1) := by decide +kernel
theorem dX6_push_40 : decode cX6_push 40 = .ok (.getfield 11, 3) := by decide +kernel
theorem dX6_push_43 : decode cX6_push 43 = .ok (.iload 4, 2) := by decide +kernel
theorem dX6_push_45 : decode cX6_push 45 = .ok (.aload 5, 2) := by decide +kernel
theorem dX6_push_47 : decode cX6_push 47 = .ok (.aastore, 1) := by decide +kernel
theorem dX6_push_48 : decode cX6_push 48 = .ok (.aload_n 0, 1) := by decide +kernel
theorem dX6_push_49 : decode cX6_push 49 = .ok (.iload 4, 2) := by decide +kernel
theorem dX6_push_51 : decode cX6_push 51 = .ok (.iconst 1, 1) := by decide +kernel
theorem dX6_push_52 : decode cX6_push 52 = .ok (.iadd, 1) := by decide +kernel
theorem dX6_push_53 : decode cX6_push 53 = .ok (.putfield 21, 3) := by decide +kernel
theorem dX6_push_56 : decode cX6_push 56 = .ok (.aload_n 0, 1) := by decide +kernel
theorem dX6_push_57 : decode cX6_push 57 = .ok (.dup, 1) := by decide +kernel
theorem dX6_push_58 : decode cX6_push 58 = .ok (.getfield 25, 3) := by decide +kernel
theorem dX6_push_61 : decode cX6_push 61 = .ok (.iconst 1, 1) := by decide +kernel
theorem dX6_push_62 : decode cX6_push 62 = .ok (.iadd, 1) := by decide +kernel
theorem dX6_push_63 : decode cX6_push 63 = .ok (.putfield 25, 3) := by decide +kernel
theorem dX6_push_66 : decode cX6_push 66 = .ok (.aload 5, 2) := by decide +kernel
theorem dX6_push_68 : decode cX6_push 68 = .ok (.iload_n 1, 1) := by decide +kernel
theorem dX6_push_69 : decode cX6_push 69 = .ok (.putfield 41, 3) := by decide +kernel
theorem dX6_push_72 : decode cX6_push 72 = .ok (.aload 5, 2) := by decide +kernel
theorem dX6_push_74 : decode cX6_push 74 = .ok (.aload_n 0, 1) := by decide +kernel
theorem dX6_push_75 : decode cX6_push 75 = .ok (.getfield 25, 3) := by decide +kernel
theorem dX6_push_78 : decode cX6_push 78 = .ok (.putfield 44, 3) := by decide +kernel
theorem dX6_push_81 : decode cX6_push 81 = .ok (.aload 5, 2) := by decide +kernel
theorem dX6_push_83 : decode cX6_push 83 = .ok (.iload_n 2, 1) := by decide +kernel
theorem dX6_push_84 : decode cX6_push 84 = .ok (.putfield 47, 3) := by decide +kernel
theorem dX6_push_87 : decode cX6_push 87 = .ok (.aload 5, 2) := by decide +kernel
theorem dX6_push_89 : decode cX6_push 89 = .ok (.iload_n 3, 1) := by decide +kernel
theorem dX6_push_90 : decode cX6_push 90 = .ok (.putfield 50, 3) := by decide +kernel
theorem dX6_push_93 : decode cX6_push 93 = .ok (.aload 5, 2) := by decide +kernel
theorem dX6_push_95 : decode cX6_push 95 = .ok (.lconst 0, 1) := by decide +kernel
theorem dX6_push_96 : decode cX6_push 96 = .ok (.putfield 53, 3) := by decide +kernel
theorem dX6_push_99 : decode cX6_push 99 = .ok (.aload 5, 2) := by decide +kernel
theorem dX6_push_101 : decode cX6_push 101 = .ok (.iconst 0, 1) := by decide +kernel
theorem dX6_push_102 : decode cX6_push 102 = .ok (.putfield 57, 3) := by decide +kernel
theorem dX6_push_105 : decode cX6_push 105 = .ok (.aload 5, 2) := by decide +kernel
theorem dX6_push_107 : decode cX6_push 107 = .ok (.iconst 0, 1) := by decide +kernel
theorem dX6_push_108 : decode cX6_push 108 = .ok (.putfield 61, 3) := by decide +kernel
theorem dX6_push_111 : decode cX6_push 111 = .ok (.aload 5, 2) := by decide +kernel
theorem dX6_push_113 : decode cX6_push 113 = .ok (.iconst 0, 1) := by decide +kernel
theorem dX6_push_114 : decode cX6_push 114 = .ok (.putfield 64, 3) := by decide +kernel
theorem dX6_push_117 : decode cX6_push 117 = .ok (.aload 5, 2) := by decide +kernel
theorem dX6_push_119 : decode cX6_push 119 = .ok (.iconst 0, 1) := by decide +kernel
theorem dX6_push_120 : decode cX6_push 120 = .ok (.putfield 67, 3) := by decide +kernel
theorem dX6_push_123 : decode cX6_push 123 = .ok (.aload 5, 2) := by decide +kernel
theorem dX6_push_125 : decode cX6_push 125 = .ok (.iconst (-1), 1) := by decide +kernel
theorem dX6_push_126 : decode cX6_push 126 = .ok (.putfield 70, 3) := by decide +kernel
theorem dX6_push_129 : decode cX6_push 129 = .ok (.aload 5, 2) := by decide +kernel
theorem dX6_push_131 : decode cX6_push 131 = .ok (.iconst (-1), 1) := by decide +kernel
theorem dX6_push_132 : decode cX6_push 132 = .ok (.putfield 73, 3) := by decide +kernel
theorem dX6_push_135 : decode cX6_push 135 = .ok (.aload 5, 2) := by decide +kernel
theorem dX6_push_137 : decode cX6_push 137 = .ok (.iconst (-1), 1) := by decide +kernel
theorem dX6_push_138 : decode cX6_push 138 = .ok (.putfield 76, 3) := by decide +kernel
theorem dX6_push_141 : decode cX6_push 141 = .ok (.aload 5, 2) := by decide +kernel
theorem dX6_push_143 : decode cX6_push 143 = .ok (.iconst 0, 1) := by decide +kernel
theorem dX6_push_144 : decode cX6_push 144 = .ok (.putfield 79, 3) := by decide +kernel
theorem dX6_push_147 : decode cX6_push 147 = .ok (.aload 5, 2) := by decide +kernel
theorem dX6_push_149 : decode cX6_push 149 = .ok (.aload_n 0, 1) := by decide +kernel
theorem dX6_push_150 : decode cX6_push 150 = .ok (.getfield 28, 3) := by decide +kernel
theorem dX6_push_153 : decode cX6_push 153 = .ok (.putfield 82, 3) := by decide +kernel
theorem dX6_push_156 : decode cX6_push 156 = .ok (.aload 5, 2) := by decide +kernel
theorem dX6_push_158 : decode cX6_push 158 = .ok (.areturn, 1) := by decide +kernel
theorem dX6_pop_0 : decode cX6_pop 0 = .ok (.aload_n 0, 1) := by decide +kernel
theorem dX6_pop_1 : decode cX6_pop 1 = .ok (.iconst 0, 1) := by decide +kernel
theorem dX6_pop_2 : decode cX6_pop 2 = .ok (.aload_n 0, 1) := by decide +kernel
theorem dX6_pop_3 : decode cX6_pop 3 = .ok (.getfield 21, 3) := by decide +kernel
theorem dX6_pop_6 : decode cX6_pop 6 = .ok (.iconst 1, 1) := by decide +kernel
theorem dX6_pop_7 : decode cX6_pop 7 = .ok (.isub, 1) := by decide +kernel
theorem dX6_pop_8 : decode cX6_pop 8 = .ok (.invokestatic 85, 3) := by decide +kernel
theorem dX6_pop_11 : decode cX6_pop 11 = .ok (.putfield 21, 3) := by decide +kernel
theorem dX6_pop_14 : decode cX6_pop 14 = .ok (.return_, 1) := by decide +kernel
theorem dX6_row_0 : decode cX6_row 0 = .ok (.iload_n 1, 1) := by decide +kernel
theorem dX6_row_1 : decode cX6_row 1 = .ok (.ifCond .lt 29, 3) := by decide +kernel
theorem dX6_row_4 : decode cX6_row 4 = .ok (.iload_n 1, 1) := by decide +kernel
theorem dX6_row_5 : decode cX6_row 5 = .ok (.aload_n 0, 1) := by decide +kernel
theorem dX6_row_6 : decode cX6_row 6 = .ok (.getfield 21, 3) := by decide +kernel
theorem dX6_row_9 : decode cX6_row 9 = .ok (.if_icmp .ge 21, 3) := by decide +kernel
theorem dX6_row_12 : decode cX6_row 12 = .ok (.iload_n 1, 1) := by decide +kernel
theorem dX6_row_13 : decode cX6_row 13 = .ok (.aload_n 0, 1) := by decide +kernel
theorem dX6_row_14 : decode cX6_row 14 = .ok (.getfield 11, 3) := by decide +kernel
theorem dX6_row_17 : decode cX6_row 17 = .ok (.arraylength, 1) := by decide +kernel
theorem dX6_row_18 : decode cX6_row 18 = .ok (.if_icmp .ge 12, 3) := by decide +kernel
theorem dX6_row_21 : decode cX6_row 21 = .ok (.aload_n 0, 1) := by decide +kernel
theorem dX6_row_22 : decode cX6_row 22 = .ok (.getfield 11, 3) := by decide +kernel
theorem dX6_row_25 : decode cX6_row 25 = .ok (.iload_n 1, 1) := by decide +kernel
theorem dX6_row_26 : decode cX6_row 26 = .ok (.aaload, 1) := by decide +kernel
theorem dX6_row_27 : decode cX6_row 27 = .ok (.goto 4, 3) := by decide +kernel
theorem dX6_row_31 : decode cX6_row 31 = .ok (.areturn, 1) := by decide +kernel
theorem dX7_init_0 : decode cX7_init 0 = .ok (.aload_n 0, 1) := by decide +kernel
theorem dX7_init_1 : decode cX7_init 1 = .ok (.aload_n 1, 1) := by decide +kernel
theorem dX7_init_2 : decode cX7_init 2 = .ok (.aload_n 2, 1) := by decide +kernel
theorem dX7_init_3 : decode cX7_init 3 = .ok (.aload_n 3, 1) := by decide +kernel
theorem dX7_init_4 : decode cX7_init 4 = .ok (.invokespecial 3, 3) := by decide +kernel
theorem dX7_init_7 : decode cX7_init 7 = .ok (.aload_n 0, 1) := by decide +kernel
theorem dX7_init_8 : decode cX7_init 8 = .ok (.new 9, 3) := by decide +kernel
theorem dX7_init_11 : decode cX7_init 11 = .ok (.dup, 1) := by decide +kernel
theorem dX7_init_12 : decode cX7_init 12 = .ok (.invokespecial 11, 3) := by decide +kernel
theorem dX7_init_15 : decode cX7_init 15 = .ok (.putfield 14, 3) := by decide +kernel
theorem dX7_init_18 : decode cX7_init 18 = .ok (.return_, 1) := by decide +kernel
theorem dX7_translate_0 : decode cX7_translate 0 = .ok (.aload_n 0, 1) := by decide +kernel
theorem dX7_translate_1 : decode cX7_translate 1 = .ok (.getfield 20, 3) := by decide +kernel
theorem dX7_translate_4 : decode cX7_translate 4 = .ok (.invokevirtual 24, 3) := by decide +kernel
theorem dX7_translate_7 : decode cX7_translate 7 = .ok (.aload_n 0, 1) := by decide +kernel
theorem dX7_translate_8 : decode cX7_translate 8 = .ok (.getfield 29, 3) := by decide +kernel
theorem dX7_translate_11 : decode cX7_translate 11 = .ok (.iconst 0, 1) := by decide +kernel
theorem dX7_translate_12 : decode cX7_translate 12 = .ok (.putfield 33, 3) := by decide +kernel
theorem dX7_translate_15 : decode cX7_translate 15 = .ok (.aload_n 0, 1) := by decide +kernel
theorem dX7_translate_16 : decode cX7_translate 16 = .ok (.getfield 29, 3) := by decide +kernel
theorem dX7_translate_19 : decode cX7_translate 19 = .ok (.ldc2_w 39, 3) := by decide +kernel
theorem dX7_translate_22 : decode cX7_translate 22 = .ok (.aload_n 0, 1) := by decide +kernel
theorem dX7_translate_23 : decode cX7_translate 23 = .ok (.getfield 20, 3) := by decide +kernel
theorem dX7_translate_26 : decode cX7_translate 26 = .ok (.iconst 1, 1) := by decide +kernel
theorem dX7_translate_27 : decode cX7_translate 27 = .ok (.invokevirtual 41, 3) := by decide +kernel
theorem dX7_translate_30 : decode cX7_translate 30 = .ok (.iconst (-1), 1) := by decide +kernel
theorem dX7_translate_31 : decode cX7_translate 31 = .ok (.invokevirtual 45, 3) := by decide +kernel
theorem dX7_translate_34 : decode cX7_translate 34 = .ok (.aload_n 0, 1) := by decide +kernel
theorem dX7_translate_35 : decode cX7_translate 35 = .ok (.getfield 29, 3) := by decide +kernel
theorem dX7_translate_38 : decode cX7_translate 38 = .ok (.ldc2_w 49, 3) := by decide +kernel
theorem dX7_translate_41 : decode cX7_translate 41 = .ok (.aload_n 0, 1) := by decide +kernel
theorem dX7_translate_42 : decode cX7_translate 42 = .ok (.getfield 20, 3) := by decide +kernel
theorem dX7_translate_45 : decode cX7_translate 45 = .ok (.iconst 1, 1) := by decide +kernel
theorem dX7_translate_46 : decode cX7_translate 46 = .ok (.invokevirtual 41, 3) := by decide +kernel
theorem dX7_translate_49 : decode cX7_translate 49 = .ok (.iconst (-1), 1) := by decide +kernel
theorem dX7_translate_50 : decode cX7_translate 50 = .ok (.invokevirtual 45, 3) := by decide +kernel
theorem dX7_translate_53 : decode cX7_translate 53 = .ok (.aload_n 0, 1) := by decide +kernel
theorem dX7_translate_54 : decode cX7_translate 54 = .ok (.getfield 14, 3) := by decide +kernel
theorem dX7_translate_57 : decode cX7_translate 57 = .ok (.invokevirtual 51, 3) := by decide +kernel
theorem dX7_translate_60 : decode cX7_translate 60 = .ok (.aload_n 0, 1) := by decide +kernel
theorem dX7_translate_61 : decode cX7_translate 61 = .ok (.iconst 0, 1) := by decide +kernel
theorem dX7_translate_62 : decode cX7_translate 62 = .ok (.putfield 52, 3) := by decide +kernel
theorem dX7_translate_65 : decode cX7_translate 65 = .ok (.aload_n 0, 1) := by decide +kernel
theorem dX7_translate_66 : decode cX7_translate 66 = .ok (.iconst 0, 1) := by decide +kernel
theorem dX7_translate_67 : decode cX7_translate 67 = .ok (.putfield 55, 3) := by decide +kernel
theorem dX7_translate_70 : decode cX7_translate 70 = .ok (.aload_n 0, 1) := by decide +kernel
theorem dX7_translate_71 : decode cX7_translate 71 = .ok (.iconst 0, 1) := by decide +kernel
theorem dX7_translate_72 : decode cX7_translate 72 = .ok (.putfield 58, 3) := by decide +kernel
theorem dX7_translate_75 : decode cX7_translate 75 = .ok (.aload_n 0, 1) := by decide +kernel
theorem dX7_translate_76 : decode cX7_translate 76 = .ok (.iconst 1, 1) := by decide +kernel
theorem dX7_translate_77 : decode cX7_translate 77 = .ok (.putfield 61, 3) := by decide +kernel
theorem dX7_translate_80 : decode cX7_translate 80 = .ok (.aload_n 0, 1) := by decide +kernel
theorem dX7_translate_81 : decode cX7_translate 81 = .ok (.iconst (-1), 1) := by decide +kernel
theorem dX7_translate_82 : decode cX7_translate 82 = .ok (.putfield 65, 3) := by decide +kernel
theorem dX7_translate_85 : decode cX7_translate 85 = .ok (.aload_n 0, 1) := by decide +kernel
theorem dX7_translate_86 : decode cX7_translate 86 = .ok (.iconst 0, 1) := by decide +kernel
theorem dX7_translate_87 : decode cX7_translate 87 = .ok (.putfield 68, 3) := by decide +kernel
theorem dX7_translate_90 : decode cX7_translate 90 = .ok (.aload_n 0, 1) := by decide +kernel
theorem dX7_translate_91 : decode cX7_translate 91 = .ok (.getfield 71, 3) := by decide +kernel
theorem dX7_translate_94 : decode cX7_translate 94 = .ok (.iload_n 1, 1) := by decide +kernel
theorem dX7_translate_95 : decode cX7_translate 95 = .ok (.invokevirtual 75, 3) := by decide +kernel
theorem dX7_translate_98 : decode cX7_translate 98 = .ok (.aload_n 0, 1) := by decide +kernel
theorem dX7_translate_99 : decode cX7_translate 99 = .ok (.getfield 14, 3) := by decide +kernel
theorem dX7_translate_102 : decode cX7_translate 102 = .ok (.sipush 300, 3) := by decide +kernel
theorem dX7_translate_105 : decode cX7_translate 105 = .ok (.iconst 0, 1) := by decide +kernel
theorem dX7_translate_106 : decode cX7_translate 106 = .ok (.aload_n 0, 1) := by decide +kernel
theorem dX7_translate_107 : decode cX7_translate 107 = .ok (.getfield 29, 3) := by decide +kernel
theorem dX7_translate_110 : decode cX7_translate 110 = .ok (.getfield 33, 3) := by decide +kernel
theorem dX7_translate_113 : decode cX7_translate 113 = .ok (.invokevirtual 81, 3) := by decide +kernel
theorem dX7_translate_116 : decode cX7_translate 116 = .ok (.pop, 1) := by decide +kernel
theorem dX7_translate_117 : decode cX7_translate 117 = .ok (.aload_n 0, 1) := by decide +kernel
theorem dX7_translate_118 : decode cX7_translate 118 = .ok (.iconst 0, 1) := by decide +kernel
theorem dX7_translate_119 : decode cX7_translate 119 = .ok (.invokevirtual 85, 3) := by decide +kernel
theorem dX7_translate_122 : decode cX7_translate 122 = .ok (.aload_n 0, 1) := by decide +kernel
theorem dX7_translate_123 : decode cX7_translate 123 = .ok (.getfield 65, 3) := by decide +kernel
theorem dX7_translate_126 : decode cX7_translate 126 = .ok (.ifCond .lt 13, 3) := by decide +kernel
theorem dX7_translate_139 : decode cX7_translate 139 = .ok (.aload_n 0, 1) := by decide +kernel
theorem dX7_translate_140 : decode cX7_translate 140 = .ok (.getfield 52, 3) := by decide +kernel
theorem dX7_translate_143 : decode cX7_translate 143 = .ok (.ireturn, 1) := by decide +kernel
theorem dX7_turns_0 : decode cX7_turns 0 = .ok (.iconst 0, 1) := by decide +kernel
theorem dX7_turns_1 : decode cX7_turns 1 = .ok (.istore_n 2, 1) := by decide +kernel
theorem dX7_turns_2 : decode cX7_turns 2 = .ok (.iload_n 2, 1) := by decide +kernel
theorem dX7_turns_3 : decode cX7_turns 3 = .ok (.sipush 10000, 3) := by decide +kernel
theorem dX7_turns_6 : decode cX7_turns 6 = .ok (.if_icmp .ge 158, 3) := by decide +kernel
theorem dX7_turns_9 : decode cX7_turns 9 = .ok (.aload_n 0, 1) := by decide +kernel
theorem dX7_turns_10 : decode cX7_turns 10 = .ok (.getfield 52, 3) := by decide +kernel
theorem dX7_turns_13 : decode cX7_turns 13 = .ok (.ifCond .ne 151, 3) := by decide +kernel
theorem dX7_turns_16 : decode cX7_turns 16 = .ok (.aload_n 0, 1) := by decide +kernel
end
section
theorem dX7_turns_17 : decode cX7_turns 17 = .ok (.getfield 14, 3) := by decide +kernel
theorem dX7_turns_20 : decode cX7_turns 20 = .ok (.getfield 92, 3) := by decide +kernel
theorem dX7_turns_23 : decode cX7_turns 23 = .ok (.iload_n 1, 1) := by decide +kernel
theorem dX7_turns_24 : decode cX7_turns 24 = .ok (.if_icmp .le 140, 3) := by decide +kernel
theorem dX7_turns_27 : decode cX7_turns 27 = .ok (.aload_n 0, 1) := by decide +kernel
theorem dX7_turns_28 : decode cX7_turns 28 = .ok (.getfield 14, 3) := by decide +kernel
theorem dX7_turns_31 : decode cX7_turns 31 = .ok (.aload_n 0, 1) := by decide +kernel
theorem dX7_turns_32 : decode cX7_turns 32 = .ok (.getfield 14, 3) := by decide +kernel
theorem dX7_turns_35 : decode cX7_turns 35 = .ok (.getfield 92, 3) := by decide +kernel
theorem dX7_turns_38 : decode cX7_turns 38 = .ok (.iconst 1, 1) := by decide +kernel
theorem dX7_turns_39 : decode cX7_turns 39 = .ok (.isub, 1) := by decide +kernel
theorem dX7_turns_40 : decode cX7_turns 40 = .ok (.invokevirtual 93, 3) := by decide +kernel
theorem dX7_turns_43 : decode cX7_turns 43 = .ok (.astore_n 3, 1) := by decide +kernel
theorem dX7_turns_44 : decode cX7_turns 44 = .ok (.aload_n 3, 1) := by decide +kernel
theorem dX7_turns_45 : decode cX7_turns 45 = .ok (.ifnonnull 4, 3) := by decide +kernel
theorem dX7_turns_49 : decode cX7_turns 49 = .ok (.aload_n 3, 1) := by decide +kernel
theorem dX7_turns_50 : decode cX7_turns 50 = .ok (.invokevirtual 97, 3) := by decide +kernel
theorem dX7_turns_53 : decode cX7_turns 53 = .ok (.ifCond .eq 11, 3) := by decide +kernel
theorem dX7_turns_64 : decode cX7_turns 64 = .ok (.aload_n 3, 1) := by decide +kernel
theorem dX7_turns_65 : decode cX7_turns 65 = .ok (.getfield 107, 3) := by decide +kernel
theorem dX7_turns_68 : decode cX7_turns 68 = .ok (.sipush 305, 3) := by decide +kernel
theorem dX7_turns_71 : decode cX7_turns 71 = .ok (.if_icmp .ne 21, 3) := by decide +kernel
theorem dX7_turns_92 : decode cX7_turns 92 = .ok (.aload_n 3, 1) := by decide +kernel
theorem dX7_turns_93 : decode cX7_turns 93 = .ok (.getfield 107, 3) := by decide +kernel
theorem dX7_turns_96 : decode cX7_turns 96 = .ok (.sipush 305, 3) := by decide +kernel
theorem dX7_turns_99 : decode cX7_turns 99 = .ok (.if_icmp .ne 11, 3) := by decide +kernel
theorem dX7_turns_110 : decode cX7_turns 110 = .ok (.aload_n 0, 1) := by decide +kernel
theorem dX7_turns_111 : decode cX7_turns 111 = .ok (.bipush 125, 2) := by decide +kernel
theorem dX7_turns_113 : decode cX7_turns 113 = .ok (.invokevirtual 110, 3) := by decide +kernel
theorem dX7_turns_116 : decode cX7_turns 116 = .ok (.ifCond .ne 11, 3) := by decide +kernel
theorem dX7_turns_119 : decode cX7_turns 119 = .ok (.aload_n 0, 1) := by decide +kernel
theorem dX7_turns_120 : decode cX7_turns 120 = .ok (.iconst 0, 1) := by decide +kernel
theorem dX7_turns_121 : decode cX7_turns 121 = .ok (.invokevirtual 110, 3) := by decide +kernel
theorem dX7_turns_124 : decode cX7_turns 124 = .ok (.ifCond .eq 11, 3) := by decide +kernel
theorem dX7_turns_127 : decode cX7_turns 127 = .ok (.aload_n 0, 1) := by decide +kernel
theorem dX7_turns_128 : decode cX7_turns 128 = .ok (.aload_n 3, 1) := by decide +kernel
theorem dX7_turns_129 : decode cX7_turns 129 = .ok (.invokevirtual 120, 3) := by decide +kernel
theorem dX7_turns_132 : decode cX7_turns 132 = .ok (.goto 26, 3) := by decide +kernel
theorem dX7_turns_158 : decode cX7_turns 158 = .ok (.iinc 2 1, 3) := by decide +kernel
theorem dX7_turns_161 : decode cX7_turns 161 = .ok (.goto (-159), 3) := by decide +kernel
theorem dX7_turns_164 : decode cX7_turns 164 = .ok (.return_, 1) := by decide +kernel
theorem dX7_endList_0 : decode cX7_endList 0 = .ok (.aload_n 1, 1) := by decide +kernel
theorem dX7_endList_1 : decode cX7_endList 1 = .ok (.getfield 107, 3) := by decide +kernel
theorem dX7_endList_4 : decode cX7_endList 4 = .ok (.sipush 300, 3) := by decide +kernel
theorem dX7_endList_7 : decode cX7_endList 7 = .ok (.if_icmp .ne 37, 3) := by decide +kernel
theorem dX7_endList_10 : decode cX7_endList 10 = .ok (.aload_n 0, 1) := by decide +kernel
theorem dX7_endList_11 : decode cX7_endList 11 = .ok (.iconst 0, 1) := by decide +kernel
theorem dX7_endList_12 : decode cX7_endList 12 = .ok (.invokevirtual 155, 3) := by decide +kernel
theorem dX7_endList_15 : decode cX7_endList 15 = .ok (.aload_n 0, 1) := by decide +kernel
theorem dX7_endList_16 : decode cX7_endList 16 = .ok (.getfield 20, 3) := by decide +kernel
theorem dX7_endList_19 : decode cX7_endList 19 = .ok (.aload_n 0, 1) := by decide +kernel
theorem dX7_endList_20 : decode cX7_endList 20 = .ok (.getfield 61, 3) := by decide +kernel
theorem dX7_endList_23 : decode cX7_endList 23 = .ok (.putfield 372, 3) := by decide +kernel
theorem dX7_endList_26 : decode cX7_endList 26 = .ok (.aload_n 0, 1) := by decide +kernel
theorem dX7_endList_27 : decode cX7_endList 27 = .ok (.getfield 20, 3) := by decide +kernel
theorem dX7_endList_30 : decode cX7_endList 30 = .ok (.bipush 50, 2) := by decide +kernel
theorem dX7_endList_32 : decode cX7_endList 32 = .ok (.iconst 0, 1) := by decide +kernel
theorem dX7_endList_33 : decode cX7_endList 33 = .ok (.invokevirtual 176, 3) := by decide +kernel
theorem dX7_endList_36 : decode cX7_endList 36 = .ok (.aload_n 0, 1) := by decide +kernel
theorem dX7_endList_37 : decode cX7_endList 37 = .ok (.getfield 14, 3) := by decide +kernel
theorem dX7_endList_40 : decode cX7_endList 40 = .ok (.invokevirtual 369, 3) := by decide +kernel
theorem dX7_endList_43 : decode cX7_endList 43 = .ok (.return_, 1) := by decide +kernel
theorem dX9_start_0 : decode cX9_start 0 = .ok (.aload_n 0, 1) := by decide +kernel
theorem dX9_start_1 : decode cX9_start 1 = .ok (.iload_n 1, 1) := by decide +kernel
theorem dX9_start_2 : decode cX9_start 2 = .ok (.putfield 31, 3) := by decide +kernel
theorem dX9_start_5 : decode cX9_start 5 = .ok (.aload_n 0, 1) := by decide +kernel
theorem dX9_start_6 : decode cX9_start 6 = .ok (.iconst 0, 1) := by decide +kernel
theorem dX9_start_7 : decode cX9_start 7 = .ok (.putfield 34, 3) := by decide +kernel
theorem dX9_start_10 : decode cX9_start 10 = .ok (.aload_n 0, 1) := by decide +kernel
theorem dX9_start_11 : decode cX9_start 11 = .ok (.invokevirtual 37, 3) := by decide +kernel
theorem dX9_start_14 : decode cX9_start 14 = .ok (.return_, 1) := by decide +kernel
theorem dX9_advance_0 : decode cX9_advance 0 = .ok (.iconst 0, 1) := by decide +kernel
theorem dX9_advance_1 : decode cX9_advance 1 = .ok (.istore_n 1, 1) := by decide +kernel
theorem dX9_advance_2 : decode cX9_advance 2 = .ok (.iload_n 1, 1) := by decide +kernel
theorem dX9_advance_3 : decode cX9_advance 3 = .ok (.sipush 900, 3) := by decide +kernel
theorem dX9_advance_6 : decode cX9_advance 6 = .ok (.if_icmp .ge 45, 3) := by decide +kernel
theorem dX9_advance_9 : decode cX9_advance 9 = .ok (.aload_n 0, 1) := by decide +kernel
theorem dX9_advance_10 : decode cX9_advance 10 = .ok (.aload_n 0, 1) := by decide +kernel
theorem dX9_advance_11 : decode cX9_advance 11 = .ok (.getfield 34, 3) := by decide +kernel
theorem dX9_advance_14 : decode cX9_advance 14 = .ok (.invokevirtual 43, 3) := by decide +kernel
theorem dX9_advance_17 : decode cX9_advance 17 = .ok (.bipush 32, 2) := by decide +kernel
theorem dX9_advance_19 : decode cX9_advance 19 = .ok (.if_icmp .eq 16, 3) := by decide +kernel
theorem dX9_advance_22 : decode cX9_advance 22 = .ok (.aload_n 0, 1) := by decide +kernel
theorem dX9_advance_23 : decode cX9_advance 23 = .ok (.aload_n 0, 1) := by decide +kernel
theorem dX9_advance_24 : decode cX9_advance 24 = .ok (.getfield 34, 3) := by decide +kernel
theorem dX9_advance_27 : decode cX9_advance 27 = .ok (.invokevirtual 43, 3) := by decide +kernel
theorem dX9_advance_30 : decode cX9_advance 30 = .ok (.bipush 10, 2) := by decide +kernel
theorem dX9_advance_32 : decode cX9_advance 32 = .ok (.if_icmp .ne 19, 3) := by decide +kernel
theorem dX9_advance_51 : decode cX9_advance 51 = .ok (.aload_n 0, 1) := by decide +kernel
theorem dX9_advance_52 : decode cX9_advance 52 = .ok (.aload_n 0, 1) := by decide +kernel
theorem dX9_advance_53 : decode cX9_advance 53 = .ok (.getfield 34, 3) := by decide +kernel
theorem dX9_advance_56 : decode cX9_advance 56 = .ok (.putfield 47, 3) := by decide +kernel
theorem dX9_advance_59 : decode cX9_advance 59 = .ok (.aload_n 0, 1) := by decide +kernel
theorem dX9_advance_60 : decode cX9_advance 60 = .ok (.getfield 34, 3) := by decide +kernel
theorem dX9_advance_63 : decode cX9_advance 63 = .ok (.aload_n 0, 1) := by decide +kernel
theorem dX9_advance_64 : decode cX9_advance 64 = .ok (.getfield 31, 3) := by decide +kernel
theorem dX9_advance_67 : decode cX9_advance 67 = .ok (.if_icmp .lt 11, 3) := by decide +kernel
theorem dX9_advance_70 : decode cX9_advance 70 = .ok (.aload_n 0, 1) := by decide +kernel
theorem dX9_advance_71 : decode cX9_advance 71 = .ok (.iconst 0, 1) := by decide +kernel
theorem dX9_advance_72 : decode cX9_advance 72 = .ok (.putfield 40, 3) := by decide +kernel
theorem dX9_advance_75 : decode cX9_advance 75 = .ok (.goto 49, 3) := by decide +kernel
theorem dX9_advance_124 : decode cX9_advance 124 = .ok (.return_, 1) := by decide +kernel
theorem dX9_byteAt_0 : decode cX9_byteAt 0 = .ok (.iload_n 1, 1) := by decide +kernel
theorem dX9_byteAt_1 : decode cX9_byteAt 1 = .ok (.ifCond .lt 29, 3) := by decide +kernel
theorem dX9_byteAt_4 : decode cX9_byteAt 4 = .ok (.iload_n 1, 1) := by decide +kernel
theorem dX9_byteAt_5 : decode cX9_byteAt 5 = .ok (.aload_n 0, 1) := by decide +kernel
theorem dX9_byteAt_6 : decode cX9_byteAt 6 = .ok (.getfield 31, 3) := by decide +kernel
theorem dX9_byteAt_9 : decode cX9_byteAt 9 = .ok (.if_icmp .ge 21, 3) := by decide +kernel
theorem dX9_byteAt_30 : decode cX9_byteAt 30 = .ok (.iconst (-1), 1) := by decide +kernel
theorem dX9_byteAt_31 : decode cX9_byteAt 31 = .ok (.ireturn, 1) := by decide +kernel
theorem dX10_init_0 : decode cX10_init 0 = .ok (.aload_n 0, 1) := by decide +kernel
theorem dX10_init_1 : decode cX10_init 1 = .ok (.invokespecial 3, 3) := by decide +kernel
theorem dX10_init_4 : decode cX10_init 4 = .ok (.aload_n 0, 1) := by decide +kernel
theorem dX10_init_5 : decode cX10_init 5 = .ok (.bipush 12, 2) := by decide +kernel
theorem dX10_init_7 : decode cX10_init 7 = .ok (.newarray .int, 2) := by decide +kernel
theorem dX10_init_9 : decode cX10_init 9 = .ok (.putfield 9, 3) := by decide +kernel
theorem dX10_init_12 : decode cX10_init 12 = .ok (.aload_n 0, 1) := by decide +kernel
theorem dX10_init_13 : decode cX10_init 13 = .ok (.bipush 8, 2) := by decide +kernel
theorem dX10_init_15 : decode cX10_init 15 = .ok (.newarray .int, 2) := by decide +kernel
theorem dX10_init_17 : decode cX10_init 17 = .ok (.putfield 15, 3) := by decide +kernel
theorem dX10_init_20 : decode cX10_init 20 = .ok (.aload_n 0, 1) := by decide +kernel
theorem dX10_init_21 : decode cX10_init 21 = .ok (.bipush 8, 2) := by decide +kernel
theorem dX10_init_23 : decode cX10_init 23 = .ok (.newarray .int, 2) := by decide +kernel
theorem dX10_init_25 : decode cX10_init 25 = .ok (.putfield 18, 3) := by decide +kernel
theorem dX10_init_28 : decode cX10_init 28 = .ok (.aload_n 0, 1) := by decide +kernel
theorem dX10_init_29 : decode cX10_init 29 = .ok (.bipush 8, 2) := by decide +kernel
theorem dX10_init_31 : decode cX10_init 31 = .ok (.newarray .int, 2) := by decide +kernel
theorem dX10_init_33 : decode cX10_init 33 = .ok (.putfield 21, 3) := by decide +kernel
theorem dX10_init_36 : decode cX10_init 36 = .ok (.aload_n 0, 1) := by decide +kernel
theorem dX10_init_37 : decode cX10_init 37 = .ok (.iconst 4, 1) := by decide +kernel
theorem dX10_init_38 : decode cX10_init 38 = .ok (.putfield 24, 3) := by decide +kernel
theorem dX10_init_41 : decode cX10_init 41 = .ok (.aload_n 0, 1) := by decide +kernel
theorem dX10_init_42 : decode cX10_init 42 = .ok (.getfield 9, 3) := by decide +kernel
theorem dX10_init_45 : decode cX10_init 45 = .ok (.iconst 0, 1) := by decide +kernel
theorem dX10_init_46 : decode cX10_init 46 = .ok (.iconst (-1), 1) := by decide +kernel
theorem dX10_init_47 : decode cX10_init 47 = .ok (.iastore, 1) := by decide +kernel
theorem dX10_init_48 : decode cX10_init 48 = .ok (.iconst 0, 1) := by decide +kernel
theorem dX10_init_49 : decode cX10_init 49 = .ok (.istore_n 1, 1) := by decide +kernel
theorem dX10_init_50 : decode cX10_init 50 = .ok (.iload_n 1, 1) := by decide +kernel
theorem dX10_init_51 : decode cX10_init 51 = .ok (.bipush 8, 2) := by decide +kernel
theorem dX10_init_53 : decode cX10_init 53 = .ok (.if_icmp .ge 23, 3) := by decide +kernel
theorem dX10_init_56 : decode cX10_init 56 = .ok (.aload_n 0, 1) := by decide +kernel
theorem dX10_init_57 : decode cX10_init 57 = .ok (.getfield 18, 3) := by decide +kernel
theorem dX10_init_60 : decode cX10_init 60 = .ok (.iload_n 1, 1) := by decide +kernel
theorem dX10_init_61 : decode cX10_init 61 = .ok (.iconst (-1), 1) := by decide +kernel
theorem dX10_init_62 : decode cX10_init 62 = .ok (.iastore, 1) := by decide +kernel
theorem dX10_init_63 : decode cX10_init 63 = .ok (.aload_n 0, 1) := by decide +kernel
theorem dX10_init_64 : decode cX10_init 64 = .ok (.getfield 21, 3) := by decide +kernel
theorem dX10_init_67 : decode cX10_init 67 = .ok (.iload_n 1, 1) := by decide +kernel
theorem dX10_init_68 : decode cX10_init 68 = .ok (.iconst (-1), 1) := by decide +kernel
theorem dX10_init_69 : decode cX10_init 69 = .ok (.iastore, 1) := by decide +kernel
theorem dX10_init_70 : decode cX10_init 70 = .ok (.iinc 1 1, 3) := by decide +kernel
theorem dX10_init_73 : decode cX10_init 73 = .ok (.goto (-23), 3) := by decide +kernel
theorem dX10_init_76 : decode cX10_init 76 = .ok (.return_, 1) := by decide +kernel
theorem dX10_isKind_0 : decode cX10_isKind 0 = .ok (.iload_n 1, 1) := by decide +kernel
theorem dX10_isKind_1 : decode cX10_isKind 1 = .ok (.ifCond .lt 15, 3) := by decide +kernel
theorem dX10_isKind_4 : decode cX10_isKind 4 = .ok (.iload_n 1, 1) := by decide +kernel
theorem dX10_isKind_5 : decode cX10_isKind 5 = .ok (.aload_n 0, 1) := by decide +kernel
theorem dX10_isKind_6 : decode cX10_isKind 6 = .ok (.getfield 24, 3) := by decide +kernel
theorem dX10_isKind_9 : decode cX10_isKind 9 = .ok (.if_icmp .ge 7, 3) := by decide +kernel
theorem dX10_isKind_12 : decode cX10_isKind 12 = .ok (.iconst 1, 1) := by decide +kernel
theorem dX10_isKind_13 : decode cX10_isKind 13 = .ok (.goto 4, 3) := by decide +kernel
theorem dX10_isKind_16 : decode cX10_isKind 16 = .ok (.iconst 0, 1) := by decide +kernel
theorem dX10_isKind_17 : decode cX10_isKind 17 = .ok (.ireturn, 1) := by decide +kernel
theorem dX10_isFull_0 : decode cX10_isFull 0 = .ok (.aload_n 0, 1) := by decide +kernel
theorem dX10_isFull_1 : decode cX10_isFull 1 = .ok (.getfield 24, 3) := by decide +kernel
theorem dX10_isFull_4 : decode cX10_isFull 4 = .ok (.bipush 12, 2) := by decide +kernel
theorem dX10_isFull_6 : decode cX10_isFull 6 = .ok (.if_icmp .lt 7, 3) := by decide +kernel
theorem dX10_isFull_13 : decode cX10_isFull 13 = .ok (.iconst 0, 1) := by decide +kernel
theorem dX10_isFull_14 : decode cX10_isFull 14 = .ok (.ireturn, 1) := by decide +kernel
theorem dX10_addKind_0 : decode cX10_addKind 0 = .ok (.aload_n 0, 1) := by decide +kernel
theorem dX10_addKind_1 : decode cX10_addKind 1 = .ok (.getfield 9, 3) := by decide +kernel
theorem dX10_addKind_4 : decode cX10_addKind 4 = .ok (.aload_n 0, 1) := by decide +kernel
theorem dX10_addKind_5 : decode cX10_addKind 5 = .ok (.getfield 24, 3) := by decide +kernel
theorem dX10_addKind_8 : decode cX10_addKind 8 = .ok (.iload_n 1, 1) := by decide +kernel
theorem dX10_addKind_9 : decode cX10_addKind 9 = .ok (.invokestatic 28, 3) := by decide +kernel
theorem dX10_addKind_12 : decode cX10_addKind 12 = .ok (.aload_n 0, 1) := by decide +kernel
theorem dX10_addKind_13 : decode cX10_addKind 13 = .ok (.dup, 1) := by decide +kernel
theorem dX10_addKind_14 : decode cX10_addKind 14 = .ok (.getfield 24, 3) := by decide +kernel
theorem dX10_addKind_17 : decode cX10_addKind 17 = .ok (.iconst 1, 1) := by decide +kernel
theorem dX10_addKind_18 : decode cX10_addKind 18 = .ok (.iadd, 1) := by decide +kernel
theorem dX10_addKind_19 : decode cX10_addKind 19 = .ok (.putfield 24, 3) := by decide +kernel
theorem dX10_addKind_22 : decode cX10_addKind 22 = .ok (.aload_n 0, 1) := by decide +kernel
theorem dX10_addKind_23 : decode cX10_addKind 23 = .ok (.getfield 24, 3) := by decide +kernel
theorem dX10_addKind_26 : decode cX10_addKind 26 = .ok (.iconst 1, 1) := by decide +kernel
theorem dX10_addKind_27 : decode cX10_addKind 27 = .ok (.isub, 1) := by decide +kernel
theorem dX10_addKind_28 : decode cX10_addKind 28 = .ok (.ireturn, 1) := by decide +kernel
theorem dX10_isUnder_0 : decode cX10_isUnder 0 = .ok (.iload_n 1, 1) := by decide +kernel
theorem dX10_isUnder_1 : decode cX10_isUnder 1 = .ok (.istore_n 3, 1) := by decide +kernel
theorem dX10_isUnder_2 : decode cX10_isUnder 2 = .ok (.iconst 0, 1) := by decide +kernel
theorem dX10_isUnder_3 : decode cX10_isUnder 3 = .ok (.istore 4, 2) := by decide +kernel
theorem dX10_isUnder_5 : decode cX10_isUnder 5 = .ok (.iload 4, 2) := by decide +kernel
theorem dX10_isUnder_7 : decode cX10_isUnder 7 = .ok (.bipush 12, 2) := by decide +kernel
theorem dX10_isUnder_9 : decode cX10_isUnder 9 = .ok (.if_icmp .ge 29, 3) := by decide +kernel
theorem dX10_isUnder_12 : decode cX10_isUnder 12 = .ok (.iload_n 3, 1) := by decide +kernel
theorem dX10_isUnder_13 : decode cX10_isUnder 13 = .ok (.ifCond .lt 25, 3) := by decide +kernel
theorem dX10_isUnder_16 : decode cX10_isUnder 16 = .ok (.iload_n 3, 1) := by decide +kernel
theorem dX10_isUnder_17 : decode cX10_isUnder 17 = .ok (.iload_n 2, 1) := by decide +kernel
theorem dX10_isUnder_18 : decode cX10_isUnder 18 = .ok (.if_icmp .ne 5, 3) := by decide +kernel
theorem dX10_isUnder_21 : decode cX10_isUnder 21 = .ok (.iconst 1, 1) := by decide +kernel
theorem dX10_isUnder_22 : decode cX10_isUnder 22 = .ok (.ireturn, 1) := by decide +kernel
theorem dX10_isUnder_23 : decode cX10_isUnder 23 = .ok (.aload_n 0, 1) := by decide +kernel
theorem dX10_isUnder_24 : decode cX10_isUnder 24 = .ok (.getfield 9, 3) := by decide +kernel
theorem dX10_isUnder_27 : decode cX10_isUnder 27 = .ok (.iload_n 3, 1) := by decide +kernel
theorem dX10_isUnder_28 : decode cX10_isUnder 28 = .ok (.invokestatic 32, 3) := by decide +kernel
theorem dX10_isUnder_31 : decode cX10_isUnder 31 = .ok (.istore_n 3, 1) := by decide +kernel
theorem dX10_isUnder_32 : decode cX10_isUnder 32 = .ok (.iinc 4 1, 3) := by decide +kernel
theorem dX10_isUnder_35 : decode cX10_isUnder 35 = .ok (.goto (-30), 3) := by decide +kernel
theorem dX10_isUnder_38 : decode cX10_isUnder 38 = .ok (.iconst 0, 1) := by decide +kernel
theorem dX10_isUnder_39 : decode cX10_isUnder 39 = .ok (.ireturn, 1) := by decide +kernel
theorem dX10_tellResource_0 : decode cX10_tellResource 0 = .ok (.aload_n 0, 1) := by decide +kernel
theorem dX10_tellResource_1 : decode cX10_tellResource 1 = .ok (.getfield 15, 3) := by decide +kernel
theorem dX10_tellResource_4 : decode cX10_tellResource 4 = .ok (.iload_n 1, 1) := by decide +kernel
theorem dX10_tellResource_5 : decode cX10_tellResource 5 = .ok (.iload_n 2, 1) := by decide +kernel
theorem dX10_tellResource_6 : decode cX10_tellResource 6 = .ok (.invokestatic 28, 3) := by decide +kernel
theorem dX10_tellResource_9 : decode cX10_tellResource 9 = .ok (.aload_n 0, 1) := by decide +kernel
theorem dX10_tellResource_10 : decode cX10_tellResource 10 = .ok (.getfield 18, 3) := by decide +kernel
theorem dX10_tellResource_13 : decode cX10_tellResource 13 = .ok (.iload_n 1, 1) := by decide +kernel
theorem dX10_tellResource_14 : decode cX10_tellResource 14 = .ok (.iload_n 3, 1) := by decide +kernel
theorem dX10_tellResource_15 : decode cX10_tellResource 15 = .ok (.invokestatic 28, 3) := by decide +kernel
theorem dX10_tellResource_18 : decode cX10_tellResource 18 = .ok (.aload_n 0, 1) := by decide +kernel
theorem dX10_tellResource_19 : decode cX10_tellResource 19 = .ok (.getfield 21, 3) := by decide +kernel
theorem dX10_tellResource_22 : decode cX10_tellResource 22 = .ok (.iload_n 1, 1) := by decide +kernel
theorem dX10_tellResource_23 : decode cX10_tellResource 23 = .ok (.iload 4, 2) := by decide +kernel
theorem dX10_tellResource_25 : decode cX10_tellResource 25 = .ok (.invokestatic 28, 3) := by decide +kernel
theorem dX10_tellResource_28 : decode cX10_tellResource 28 = .ok (.return_, 1) := by decide +kernel
theorem dX11_feed_0 : decode cX11_feed 0 = .ok (.aload_n 0, 1) := by decide +kernel
theorem dX11_feed_1 : decode cX11_feed 1 = .ok (.getfield 50, 3) := by decide +kernel
theorem dX11_feed_4 : decode cX11_feed 4 = .ok (.bipush 20, 2) := by decide +kernel
theorem dX11_feed_6 : decode cX11_feed 6 = .ok (.iadd, 1) := by decide +kernel
theorem dX11_feed_7 : decode cX11_feed 7 = .ok (.sipush 900, 3) := by decide +kernel
theorem dX11_feed_10 : decode cX11_feed 10 = .ok (.if_icmp .le 6, 3) := by decide +kernel
theorem dX11_feed_16 : decode cX11_feed 16 = .ok (.aload_n 0, 1) := by decide +kernel
theorem dX11_feed_17 : decode cX11_feed 17 = .ok (.iload_n 1, 1) := by decide +kernel
theorem dX11_feed_18 : decode cX11_feed 18 = .ok (.invokevirtual 54, 3) := by decide +kernel
theorem dX11_feed_21 : decode cX11_feed 21 = .ok (.aload_n 0, 1) := by decide +kernel
theorem dX11_feed_22 : decode cX11_feed 22 = .ok (.iload_n 2, 1) := by decide +kernel
theorem dX11_feed_23 : decode cX11_feed 23 = .ok (.invokevirtual 54, 3) := by decide +kernel
theorem dX11_feed_26 : decode cX11_feed 26 = .ok (.aload_n 0, 1) := by decide +kernel
theorem dX11_feed_27 : decode cX11_feed 27 = .ok (.iload_n 3, 1) := by decide +kernel
theorem dX11_feed_28 : decode cX11_feed 28 = .ok (.invokevirtual 54, 3) := by decide +kernel
theorem dX11_feed_31 : decode cX11_feed 31 = .ok (.aload_n 0, 1) := by decide +kernel
theorem dX11_feed_32 : decode cX11_feed 32 = .ok (.iload 4, 2) := by decide +kernel
theorem dX11_feed_34 : decode cX11_feed 34 = .ok (.invokevirtual 54, 3) := by decide +kernel
theorem dX11_feed_37 : decode cX11_feed 37 = .ok (.aload_n 0, 1) := by decide +kernel
theorem dX11_feed_38 : decode cX11_feed 38 = .ok (.iload 5, 2) := by decide +kernel
theorem dX11_feed_40 : decode cX11_feed 40 = .ok (.invokevirtual 54, 3) := by decide +kernel
theorem dX11_feed_43 : decode cX11_feed 43 = .ok (.aload_n 0, 1) := by decide +kernel
theorem dX11_feed_44 : decode cX11_feed 44 = .ok (.getfield 50, 3) := by decide +kernel
theorem dX11_feed_47 : decode cX11_feed 47 = .ok (.ireturn, 1) := by decide +kernel
theorem dX11_addBytes_0 : decode cX11_addBytes 0 = .ok (.bipush 24, 2) := by decide +kernel
theorem dX11_addBytes_2 : decode cX11_addBytes 2 = .ok (.istore_n 2, 1) := by decide +kernel
theorem dX11_addBytes_3 : decode cX11_addBytes 3 = .ok (.iload_n 2, 1) := by decide +kernel
theorem dX11_addBytes_4 : decode cX11_addBytes 4 = .ok (.ifCond .lt 37, 3) := by decide +kernel
theorem dX11_addBytes_7 : decode cX11_addBytes 7 = .ok (.aload_n 0, 1) := by decide +kernel
theorem dX11_addBytes_8 : decode cX11_addBytes 8 = .ok (.getfield 9, 3) := by decide +kernel
theorem dX11_addBytes_11 : decode cX11_addBytes 11 = .ok (.aload_n 0, 1) := by decide +kernel
theorem dX11_addBytes_12 : decode cX11_addBytes 12 = .ok (.getfield 50, 3) := by decide +kernel
theorem dX11_addBytes_15 : decode cX11_addBytes 15 = .ok (.iload_n 1, 1) := by decide +kernel
theorem dX11_addBytes_16 : decode cX11_addBytes 16 = .ok (.iload_n 2, 1) := by decide +kernel
theorem dX11_addBytes_17 : decode cX11_addBytes 17 = .ok (.iushr, 1) := by decide +kernel
theorem dX11_addBytes_18 : decode cX11_addBytes 18 = .ok (.sipush 255, 3) := by decide +kernel
theorem dX11_addBytes_21 : decode cX11_addBytes 21 = .ok (.iand, 1) := by decide +kernel
theorem dX11_addBytes_22 : decode cX11_addBytes 22 = .ok (.invokestatic 58, 3) := by decide +kernel
theorem dX11_addBytes_25 : decode cX11_addBytes 25 = .ok (.aload_n 0, 1) := by decide +kernel
theorem dX11_addBytes_26 : decode cX11_addBytes 26 = .ok (.dup, 1) := by decide +kernel
theorem dX11_addBytes_27 : decode cX11_addBytes 27 = .ok (.getfield 50, 3) := by decide +kernel
theorem dX11_addBytes_30 : decode cX11_addBytes 30 = .ok (.iconst 1, 1) := by decide +kernel
theorem dX11_addBytes_31 : decode cX11_addBytes 31 = .ok (.iadd, 1) := by decide +kernel
theorem dX11_addBytes_32 : decode cX11_addBytes 32 = .ok (.putfield 50, 3) := by decide +kernel
theorem dX11_addBytes_35 : decode cX11_addBytes 35 = .ok (.iinc 2 (-8), 3) := by decide +kernel
theorem dX11_addBytes_38 : decode cX11_addBytes 38 = .ok (.goto (-35), 3) := by decide +kernel
theorem dX11_addBytes_41 : decode cX11_addBytes 41 = .ok (.return_, 1) := by decide +kernel
theorem dX11_cut_0 : decode cX11_cut 0 = .ok (.iload_n 1, 1) := by decide +kernel
theorem dX11_cut_1 : decode cX11_cut 1 = .ok (.ifCond .lt 11, 3) := by decide +kernel
theorem dX11_cut_4 : decode cX11_cut 4 = .ok (.iload_n 1, 1) := by decide +kernel
theorem dX11_cut_5 : decode cX11_cut 5 = .ok (.aload_n 0, 1) := by decide +kernel
theorem dX11_cut_6 : decode cX11_cut 6 = .ok (.getfield 50, 3) := by decide +kernel
theorem dX11_cut_9 : decode cX11_cut 9 = .ok (.if_icmp .le 5, 3) := by decide +kernel
theorem dX11_cut_12 : decode cX11_cut 12 = .ok (.iconst (-1), 1) := by decide +kernel
theorem dX11_cut_13 : decode cX11_cut 13 = .ok (.ireturn, 1) := by decide +kernel
theorem dX11_cut_14 : decode cX11_cut 14 = .ok (.aload_n 0, 1) := by decide +kernel
theorem dX11_cut_15 : decode cX11_cut 15 = .ok (.getfield 50, 3) := by decide +kernel
theorem dX11_cut_18 : decode cX11_cut 18 = .ok (.iload_n 1, 1) := by decide +kernel
theorem dX11_cut_19 : decode cX11_cut 19 = .ok (.isub, 1) := by decide +kernel
theorem dX11_cut_20 : decode cX11_cut 20 = .ok (.istore_n 2, 1) := by decide +kernel
theorem dX11_cut_21 : decode cX11_cut 21 = .ok (.aload_n 0, 1) := by decide +kernel
theorem dX11_cut_22 : decode cX11_cut 22 = .ok (.iload_n 1, 1) := by decide +kernel
theorem dX11_cut_23 : decode cX11_cut 23 = .ok (.putfield 50, 3) := by decide +kernel
theorem dX11_cut_26 : decode cX11_cut 26 = .ok (.iload_n 2, 1) := by decide +kernel
theorem dX11_cut_27 : decode cX11_cut 27 = .ok (.ireturn, 1) := by decide +kernel
theorem dX11_kind_0 : decode cX11_kind 0 = .ok (.aload_n 0, 1) := by decide +kernel
theorem dX11_kind_1 : decode cX11_kind 1 = .ok (.getfield 16, 3) := by decide +kernel
theorem dX11_kind_4 : decode cX11_kind 4 = .ok (.iload_n 1, 1) := by decide +kernel
theorem dX11_kind_5 : decode cX11_kind 5 = .ok (.invokevirtual 62, 3) := by decide +kernel
theorem dX11_kind_8 : decode cX11_kind 8 = .ok (.ifCond .ne 5, 3) := by decide +kernel
theorem dX11_kind_11 : decode cX11_kind 11 = .ok (.iconst (-1), 1) := by decide +kernel
theorem dX11_kind_12 : decode cX11_kind 12 = .ok (.ireturn, 1) := by decide +kernel
theorem dX11_kind_13 : decode cX11_kind 13 = .ok (.aload_n 0, 1) := by decide +kernel
theorem dX11_kind_14 : decode cX11_kind 14 = .ok (.getfield 16, 3) := by decide +kernel
theorem dX11_kind_17 : decode cX11_kind 17 = .ok (.invokevirtual 66, 3) := by decide +kernel
theorem dX11_kind_20 : decode cX11_kind 20 = .ok (.ifCond .eq 8, 3) := by decide +kernel
theorem dX11_kind_28 : decode cX11_kind 28 = .ok (.aload_n 0, 1) := by decide +kernel
theorem dX11_kind_29 : decode cX11_kind 29 = .ok (.getfield 16, 3) := by decide +kernel
theorem dX11_kind_32 : decode cX11_kind 32 = .ok (.iload_n 1, 1) := by decide +kernel
theorem dX11_kind_33 : decode cX11_kind 33 = .ok (.invokevirtual 70, 3) := by decide +kernel
theorem dX11_kind_36 : decode cX11_kind 36 = .ok (.ireturn, 1) := by decide +kernel
theorem dX11_resource_0 : decode cX11_resource 0 = .ok (.iload_n 1, 1) := by decide +kernel
theorem dX11_resource_1 : decode cX11_resource 1 = .ok (.ifCond .lt 18, 3) := by decide +kernel
theorem dX11_resource_4 : decode cX11_resource 4 = .ok (.iload_n 1, 1) := by decide +kernel
theorem dX11_resource_5 : decode cX11_resource 5 = .ok (.bipush 8, 2) := by decide +kernel
theorem dX11_resource_7 : decode cX11_resource 7 = .ok (.if_icmp .ge 12, 3) := by decide +kernel
theorem dX11_resource_10 : decode cX11_resource 10 = .ok (.iload_n 2, 1) := by decide +kernel
theorem dX11_resource_11 : decode cX11_resource 11 = .ok (.ifCond .lt 8, 3) := by decide +kernel
theorem dX11_resource_14 : decode cX11_resource 14 = .ok (.iload_n 2, 1) := by decide +kernel
theorem dX11_resource_15 : decode cX11_resource 15 = .ok (.iconst 1, 1) := by decide +kernel
theorem dX11_resource_16 : decode cX11_resource 16 = .ok (.if_icmp .le 5, 3) := by decide +kernel
theorem dX11_resource_19 : decode cX11_resource 19 = .ok (.iconst (-1), 1) := by decide +kernel
theorem dX11_resource_20 : decode cX11_resource 20 = .ok (.ireturn, 1) := by decide +kernel
theorem dX11_resource_21 : decode cX11_resource 21 = .ok (.aload_n 0, 1) := by decide +kernel
theorem dX11_resource_22 : decode cX11_resource 22 = .ok (.iload_n 3, 1) := by decide +kernel
theorem dX11_resource_23 : decode cX11_resource 23 = .ok (.invokevirtual 74, 3) := by decide +kernel
theorem dX11_resource_26 : decode cX11_resource 26 = .ok (.ifCond .eq 12, 3) := by decide +kernel
theorem dX11_resource_29 : decode cX11_resource 29 = .ok (.aload_n 0, 1) := by decide +kernel
theorem dX11_resource_30 : decode cX11_resource 30 = .ok (.iload 4, 2) := by decide +kernel
theorem dX11_resource_32 : decode cX11_resource 32 = .ok (.invokevirtual 74, 3) := by decide +kernel
theorem dX11_resource_35 : decode cX11_resource 35 = .ok (.ifCond .ne 5, 3) := by decide +kernel
theorem dX11_resource_38 : decode cX11_resource 38 = .ok (.iconst (-1), 1) := by decide +kernel
theorem dX11_resource_39 : decode cX11_resource 39 = .ok (.ireturn, 1) := by decide +kernel
theorem dX11_resource_40 : decode cX11_resource 40 = .ok (.aload_n 0, 1) := by decide +kernel
theorem dX11_resource_41 : decode cX11_resource 41 = .ok (.getfield 16, 3) := by decide +kernel
theorem dX11_resource_44 : decode cX11_resource 44 = .ok (.iload_n 1, 1) := by decide +kernel
theorem dX11_resource_45 : decode cX11_resource 45 = .ok (.iload_n 2, 1) := by decide +kernel
theorem dX11_resource_46 : decode cX11_resource 46 = .ok (.iload_n 3, 1) := by decide +kernel
theorem dX11_resource_47 : decode cX11_resource 47 = .ok (.iload 4, 2) := by decide +kernel
theorem dX11_resource_49 : decode cX11_resource 49 = .ok (.invokevirtual 77, 3) := by decide +kernel
theorem dX11_resource_52 : decode cX11_resource 52 = .ok (.iconst 1, 1) := by decide +kernel
theorem dX11_resource_53 : decode cX11_resource 53 = .ok (.ireturn, 1) := by decide +kernel
theorem dX11_isKindOrNothing_0 : decode cX11_isKindOrNothing 0 = .ok (.iload_n 1, 1) := by decide +kernel
theorem dX11_isKindOrNothing_1 : decode cX11_isKindOrNothing 1 = .ok (.iconst (-1), 1) := by decide +kernel
theorem dX11_isKindOrNothing_2 : decode cX11_isKindOrNothing 2 = .ok (.if_icmp .eq 14, 3) := by decide +kernel
theorem dX11_isKindOrNothing_5 : decode cX11_isKindOrNothing 5 = .ok (.aload_n 0, 1) := by decide +kernel
theorem dX11_isKindOrNothing_6 : decode cX11_isKindOrNothing 6 = .ok (.getfield 16, 3) := by decide +kernel
theorem dX11_isKindOrNothing_9 : decode cX11_isKindOrNothing 9 = .ok (.iload_n 1, 1) := by decide +kernel
theorem dX11_isKindOrNothing_10 : decode cX11_isKindOrNothing 10 = .ok (.invokevirtual 62, 3) := by decide +kernel
theorem dX11_isKindOrNothing_13 : decode cX11_isKindOrNothing 13 = .ok (.ifCond .eq 7, 3) := by decide +kernel
theorem dX11_isKindOrNothing_16 : decode cX11_isKindOrNothing 16 = .ok (.iconst 1, 1) := by decide +kernel
theorem dX11_isKindOrNothing_17 : decode cX11_isKindOrNothing 17 = .ok (.goto 4, 3) := by decide +kernel
theorem dX11_isKindOrNothing_20 : decode cX11_isKindOrNothing 20 = .ok (.iconst 0, 1) := by decide +kernel
theorem dX11_isKindOrNothing_21 : decode cX11_isKindOrNothing 21 = .ok (.ireturn, 1) := by decide +kernel
theorem dX11_asserts_0 : decode cX11_asserts 0 = .ok (.aload_n 0, 1) := by decide +kernel
theorem dX11_asserts_1 : decode cX11_asserts 1 = .ok (.getfield 16, 3) := by decide +kernel
theorem dX11_asserts_4 : decode cX11_asserts 4 = .ok (.getfield 81, 3) := by decide +kernel
theorem dX11_asserts_7 : decode cX11_asserts 7 = .ok (.ifCond .eq 7, 3) := by decide +kernel
theorem dX11_asserts_14 : decode cX11_asserts 14 = .ok (.iconst 0, 1) := by decide +kernel
theorem dX11_asserts_15 : decode cX11_asserts 15 = .ok (.istore_n 2, 1) := by decide +kernel
theorem dX11_asserts_16 : decode cX11_asserts 16 = .ok (.aload_n 0, 1) := by decide +kernel
theorem dX11_asserts_17 : decode cX11_asserts 17 = .ok (.getfield 16, 3) := by decide +kernel
theorem dX11_asserts_20 : decode cX11_asserts 20 = .ok (.iload_n 1, 1) := by decide +kernel
theorem dX11_asserts_21 : decode cX11_asserts 21 = .ok (.putfield 81, 3) := by decide +kernel
theorem dX11_asserts_24 : decode cX11_asserts 24 = .ok (.iload_n 2, 1) := by decide +kernel
theorem dX11_asserts_25 : decode cX11_asserts 25 = .ok (.ireturn, 1) := by decide +kernel
theorem dX11_read_0 : decode cX11_read 0 = .ok (.aload_n 0, 1) := by decide +kernel
theorem dX11_read_1 : decode cX11_read 1 = .ok (.getfield 50, 3) := by decide +kernel
theorem dX11_read_4 : decode cX11_read 4 = .ok (.istore_n 1, 1) := by decide +kernel
theorem dX11_read_5 : decode cX11_read 5 = .ok (.aload_n 0, 1) := by decide +kernel
theorem dX11_read_6 : decode cX11_read 6 = .ok (.iconst 0, 1) := by decide +kernel
theorem dX11_read_7 : decode cX11_read 7 = .ok (.putfield 50, 3) := by decide +kernel
theorem dX11_read_10 : decode cX11_read 10 = .ok (.aload_n 0, 1) := by decide +kernel
theorem dX11_read_11 : decode cX11_read 11 = .ok (.iconst 0, 1) := by decide +kernel
theorem dX11_read_12 : decode cX11_read 12 = .ok (.putfield 85, 3) := by decide +kernel
theorem dX11_read_15 : decode cX11_read 15 = .ok (.aload_n 0, 1) := by decide +kernel
theorem dX11_read_16 : decode cX11_read 16 = .ok (.aload_n 0, 1) := by decide +kernel
theorem dX11_read_17 : decode cX11_read 17 = .ok (.getfield 37, 3) := by decide +kernel
theorem dX11_read_20 : decode cX11_read 20 = .ok (.iload_n 1, 1) := by decide +kernel
theorem dX11_read_21 : decode cX11_read 21 = .ok (.invokevirtual 88, 3) := by decide +kernel
theorem dX11_read_24 : decode cX11_read 24 = .ok (.putfield 91, 3) := by decide +kernel
theorem dX11_read_27 : decode cX11_read 27 = .ok (.aload_n 0, 1) := by decide +kernel
theorem dX11_read_28 : decode cX11_read 28 = .ok (.aload_n 0, 1) := by decide +kernel
theorem dX11_read_29 : decode cX11_read 29 = .ok (.getfield 91, 3) := by decide +kernel
theorem dX11_read_32 : decode cX11_read 32 = .ok (.ifCond .ne 7, 3) := by decide +kernel
theorem dX11_read_35 : decode cX11_read 35 = .ok (.iconst 1, 1) := by decide +kernel
theorem dX11_read_36 : decode cX11_read 36 = .ok (.goto 4, 3) := by decide +kernel
theorem dX11_read_40 : decode cX11_read 40 = .ok (.putfield 94, 3) := by decide +kernel
theorem dX11_read_43 : decode cX11_read 43 = .ok (.aload_n 0, 1) := by decide +kernel
theorem dX11_read_44 : decode cX11_read 44 = .ok (.getfield 94, 3) := by decide +kernel
theorem dX11_read_47 : decode cX11_read 47 = .ok (.ifCond .eq 13, 3) := by decide +kernel
theorem dX11_read_50 : decode cX11_read 50 = .ok (.aload_n 0, 1) := by decide +kernel
theorem dX11_read_51 : decode cX11_read 51 = .ok (.getfield 23, 3) := by decide +kernel
theorem dX11_read_54 : decode cX11_read 54 = .ok (.getfield 97, 3) := by decide +kernel
theorem dX11_read_57 : decode cX11_read 57 = .ok (.goto 13, 3) := by decide +kernel
theorem dX11_read_70 : decode cX11_read 70 = .ok (.ireturn, 1) := by decide +kernel
theorem dX11_fault_0 : decode cX11_fault 0 = .ok (.aload_n 0, 1) := by decide +kernel
theorem dX11_fault_1 : decode cX11_fault 1 = .ok (.getfield 91, 3) := by decide +kernel
theorem dX11_fault_4 : decode cX11_fault 4 = .ok (.ireturn, 1) := by decide +kernel
theorem dX11_program_0 : decode cX11_program 0 = .ok (.iload_n 1, 1) := by decide +kernel
theorem dX11_program_1 : decode cX11_program 1 = .ok (.ifCond .lt 8, 3) := by decide +kernel
theorem dX11_program_4 : decode cX11_program 4 = .ok (.iload_n 1, 1) := by decide +kernel
theorem dX11_program_5 : decode cX11_program 5 = .ok (.iconst 3, 1) := by decide +kernel
theorem dX11_program_6 : decode cX11_program 6 = .ok (.if_icmp .le 5, 3) := by decide +kernel
theorem dX11_program_9 : decode cX11_program 9 = .ok (.iconst (-1), 1) := by decide +kernel
theorem dX11_program_10 : decode cX11_program 10 = .ok (.ireturn, 1) := by decide +kernel
theorem dX11_program_11 : decode cX11_program 11 = .ok (.aload_n 0, 1) := by decide +kernel
theorem dX11_program_12 : decode cX11_program 12 = .ok (.getfield 94, 3) := by decide +kernel
theorem dX11_program_15 : decode cX11_program 15 = .ok (.ifCond .ne 6, 3) := by decide +kernel
theorem dX11_program_18 : decode cX11_program 18 = .ok (.bipush (-3), 2) := by decide +kernel
theorem dX11_program_20 : decode cX11_program 20 = .ok (.ireturn, 1) := by decide +kernel
theorem dX11_run_0 : decode cX11_run 0 = .ok (.aload_n 0, 1) := by decide +kernel
theorem dX11_run_1 : decode cX11_run 1 = .ok (.getfield 94, 3) := by decide +kernel
theorem dX11_run_4 : decode cX11_run 4 = .ok (.ifCond .ne 6, 3) := by decide +kernel
theorem dX11_run_7 : decode cX11_run 7 = .ok (.bipush (-3), 2) := by decide +kernel
theorem dX11_run_9 : decode cX11_run 9 = .ok (.ireturn, 1) := by decide +kernel
theorem dX11_ran_0 : decode cX11_ran 0 = .ok (.iload_n 1, 1) := by decide +kernel
theorem dX11_ran_1 : decode cX11_ran 1 = .ok (.ifCond .lt 9, 3) := by decide +kernel
theorem dX11_ran_4 : decode cX11_ran 4 = .ok (.iload_n 1, 1) := by decide +kernel
theorem dX11_ran_5 : decode cX11_ran 5 = .ok (.bipush 6, 2) := by decide +kernel
theorem dX11_ran_7 : decode cX11_ran 7 = .ok (.if_icmp .le 5, 3) := by decide +kernel
theorem dX11_ran_10 : decode cX11_ran 10 = .ok (.iconst (-1), 1) := by decide +kernel
theorem dX11_ran_11 : decode cX11_ran 11 = .ok (.ireturn, 1) := by decide +kernel
theorem dX11_ran_12 : decode cX11_ran 12 = .ok (.aload_n 0, 1) := by decide +kernel
theorem dX11_ran_13 : decode cX11_ran 13 = .ok (.getfield 85, 3) := by decide +kernel
theorem dX11_ran_16 : decode cX11_ran 16 = .ok (.ifCond .eq 14, 3) := by decide +kernel
theorem dX11_ran_30 : decode cX11_ran 30 = .ok (.bipush (-3), 2) := by decide +kernel
theorem dX11_ran_32 : decode cX11_ran 32 = .ok (.ireturn, 1) := by decide +kernel
theorem dX11_trace_0 : decode cX11_trace 0 = .ok (.aload_n 0, 1) := by decide +kernel
theorem dX11_trace_1 : decode cX11_trace 1 = .ok (.getfield 85, 3) := by decide +kernel
theorem dX11_trace_4 : decode cX11_trace 4 = .ok (.ifCond .eq 27, 3) := by decide +kernel
theorem dX11_trace_31 : decode cX11_trace 31 = .ok (.iconst (-1), 1) := by decide +kernel
theorem dX11_trace_32 : decode cX11_trace 32 = .ok (.ireturn, 1) := by decide +kernel
theorem dX11_suppressed_0 : decode cX11_suppressed 0 = .ok (.aload_n 0, 1) := by decide +kernel
theorem dX11_suppressed_1 : decode cX11_suppressed 1 = .ok (.getfield 85, 3) := by decide +kernel
theorem dX11_suppressed_4 : decode cX11_suppressed 4 = .ok (.ifCond .eq 13, 3) := by decide +kernel
theorem dX11_suppressed_17 : decode cX11_suppressed 17 = .ok (.aconst_null, 1) := by decide +kernel
theorem dX11_suppressed_18 : decode cX11_suppressed 18 = .ok (.astore_n 3, 1) := by decide +kernel
theorem dX11_suppressed_19 : decode cX11_suppressed 19 = .ok (.aload_n 3, 1) := by decide +kernel
theorem dX11_suppressed_20 : decode cX11_suppressed 20 = .ok (.ifnull 24, 3) := by decide +kernel
theorem dX11_suppressed_44 : decode cX11_suppressed 44 = .ok (.iconst (-1), 1) := by decide +kernel
theorem dX11_suppressed_45 : decode cX11_suppressed 45 = .ok (.ireturn, 1) := by decide +kernel
theorem dX11_under_0 : decode cX11_under 0 = .ok (.aload_n 0, 1) := by decide +kernel
theorem dX11_under_1 : decode cX11_under 1 = .ok (.getfield 16, 3) := by decide +kernel
theorem dX11_under_4 : decode cX11_under 4 = .ok (.iload_n 1, 1) := by decide +kernel
theorem dX11_under_5 : decode cX11_under 5 = .ok (.invokevirtual 62, 3) := by decide +kernel
theorem dX11_under_8 : decode cX11_under 8 = .ok (.ifCond .eq 14, 3) := by decide +kernel
theorem dX11_under_11 : decode cX11_under 11 = .ok (.aload_n 0, 1) := by decide +kernel
theorem dX11_under_12 : decode cX11_under 12 = .ok (.getfield 16, 3) := by decide +kernel
theorem dX11_under_15 : decode cX11_under 15 = .ok (.iload_n 2, 1) := by decide +kernel
theorem dX11_under_16 : decode cX11_under 16 = .ok (.invokevirtual 62, 3) := by decide +kernel
theorem dX11_under_19 : decode cX11_under 19 = .ok (.ifCond .ne 5, 3) := by decide +kernel
theorem dX11_under_22 : decode cX11_under 22 = .ok (.iconst (-1), 1) := by decide +kernel
theorem dX11_under_23 : decode cX11_under 23 = .ok (.ireturn, 1) := by decide +kernel
end
section
theorem dX11_under_24 : decode cX11_under 24 = .ok (.aload_n 0, 1) := by decide +kernel
theorem dX11_under_25 : decode cX11_under 25 = .ok (.getfield 16, 3) := by decide +kernel
theorem dX11_under_28 : decode cX11_under 28 = .ok (.iload_n 1, 1) := by decide +kernel
theorem dX11_under_29 : decode cX11_under 29 = .ok (.iload_n 2, 1) := by decide +kernel
theorem dX11_under_30 : decode cX11_under 30 = .ok (.invokevirtual 144, 3) := by decide +kernel
theorem dX11_under_33 : decode cX11_under 33 = .ok (.ifCond .eq 7, 3) := by decide +kernel
theorem dX11_under_36 : decode cX11_under 36 = .ok (.iconst 1, 1) := by decide +kernel
theorem dX11_under_37 : decode cX11_under 37 = .ok (.goto 4, 3) := by decide +kernel
theorem dX11_under_40 : decode cX11_under 40 = .ok (.iconst 0, 1) := by decide +kernel
theorem dX11_under_41 : decode cX11_under 41 = .ok (.ireturn, 1) := by decide +kernel
theorem dX11_at_0 : decode cX11_at 0 = .ok (.iload_n 1, 1) := by decide +kernel
theorem dX11_at_1 : decode cX11_at 1 = .ok (.ifCond .lt 15, 3) := by decide +kernel
theorem dX11_at_4 : decode cX11_at 4 = .ok (.iload_n 1, 1) := by decide +kernel
theorem dX11_at_5 : decode cX11_at 5 = .ok (.aload_n 0, 1) := by decide +kernel
theorem dX11_at_6 : decode cX11_at 6 = .ok (.arraylength, 1) := by decide +kernel
theorem dX11_at_7 : decode cX11_at 7 = .ok (.if_icmp .ge 9, 3) := by decide +kernel
theorem dX11_at_10 : decode cX11_at 10 = .ok (.aload_n 0, 1) := by decide +kernel
theorem dX11_at_11 : decode cX11_at 11 = .ok (.iload_n 1, 1) := by decide +kernel
theorem dX11_at_12 : decode cX11_at 12 = .ok (.iaload, 1) := by decide +kernel
theorem dX11_at_13 : decode cX11_at 13 = .ok (.goto 4, 3) := by decide +kernel
theorem dX11_at_17 : decode cX11_at 17 = .ok (.ireturn, 1) := by decide +kernel
theorem dX11_put_0 : decode cX11_put 0 = .ok (.iload_n 1, 1) := by decide +kernel
theorem dX11_put_1 : decode cX11_put 1 = .ok (.ifCond .lt 13, 3) := by decide +kernel
theorem dX11_put_4 : decode cX11_put 4 = .ok (.iload_n 1, 1) := by decide +kernel
theorem dX11_put_5 : decode cX11_put 5 = .ok (.aload_n 0, 1) := by decide +kernel
theorem dX11_put_6 : decode cX11_put 6 = .ok (.arraylength, 1) := by decide +kernel
theorem dX11_put_7 : decode cX11_put 7 = .ok (.if_icmp .ge 7, 3) := by decide +kernel
theorem dX11_put_10 : decode cX11_put 10 = .ok (.aload_n 0, 1) := by decide +kernel
theorem dX11_put_11 : decode cX11_put 11 = .ok (.iload_n 1, 1) := by decide +kernel
theorem dX11_put_12 : decode cX11_put 12 = .ok (.iload_n 2, 1) := by decide +kernel
theorem dX11_put_13 : decode cX11_put 13 = .ok (.iastore, 1) := by decide +kernel
theorem dX11_put_14 : decode cX11_put 14 = .ok (.return_, 1) := by decide +kernel
theorem dX12_init_0 : decode cX12_init 0 = .ok (.aload_n 0, 1) := by decide +kernel
theorem dX12_init_1 : decode cX12_init 1 = .ok (.invokespecial 1, 3) := by decide +kernel
theorem dX12_init_4 : decode cX12_init 4 = .ok (.aload_n 0, 1) := by decide +kernel
theorem dX12_init_5 : decode cX12_init 5 = .ok (.sipush 900, 3) := by decide +kernel
theorem dX12_init_8 : decode cX12_init 8 = .ok (.newarray .int, 2) := by decide +kernel
theorem dX12_init_10 : decode cX12_init 10 = .ok (.putfield 7, 3) := by decide +kernel
theorem dX12_init_13 : decode cX12_init 13 = .ok (.aload_n 0, 1) := by decide +kernel
theorem dX12_init_14 : decode cX12_init 14 = .ok (.iconst 4, 1) := by decide +kernel
theorem dX12_init_15 : decode cX12_init 15 = .ok (.putfield 13, 3) := by decide +kernel
theorem dX12_init_18 : decode cX12_init 18 = .ok (.aload_n 0, 1) := by decide +kernel
theorem dX12_init_19 : decode cX12_init 19 = .ok (.bipush 12, 2) := by decide +kernel
theorem dX12_init_21 : decode cX12_init 21 = .ok (.newarray .int, 2) := by decide +kernel
theorem dX12_init_23 : decode cX12_init 23 = .ok (.putfield 17, 3) := by decide +kernel
theorem dX12_init_26 : decode cX12_init 26 = .ok (.aload_n 0, 1) := by decide +kernel
theorem dX12_init_27 : decode cX12_init 27 = .ok (.bipush 8, 2) := by decide +kernel
theorem dX12_init_29 : decode cX12_init 29 = .ok (.newarray .boolean, 2) := by decide +kernel
theorem dX12_init_31 : decode cX12_init 31 = .ok (.putfield 20, 3) := by decide +kernel
theorem dX12_init_34 : decode cX12_init 34 = .ok (.aload_n 0, 1) := by decide +kernel
theorem dX12_init_35 : decode cX12_init 35 = .ok (.bipush 8, 2) := by decide +kernel
theorem dX12_init_37 : decode cX12_init 37 = .ok (.newarray .int, 2) := by decide +kernel
theorem dX12_init_39 : decode cX12_init 39 = .ok (.putfield 24, 3) := by decide +kernel
theorem dX12_init_42 : decode cX12_init 42 = .ok (.aload_n 0, 1) := by decide +kernel
theorem dX12_init_43 : decode cX12_init 43 = .ok (.bipush 8, 2) := by decide +kernel
theorem dX12_init_45 : decode cX12_init 45 = .ok (.newarray .int, 2) := by decide +kernel
theorem dX12_init_47 : decode cX12_init 47 = .ok (.putfield 27, 3) := by decide +kernel
theorem dX12_init_50 : decode cX12_init 50 = .ok (.aload_n 0, 1) := by decide +kernel
theorem dX12_init_51 : decode cX12_init 51 = .ok (.bipush 25, 2) := by decide +kernel
theorem dX12_init_53 : decode cX12_init 53 = .ok (.newarray .long, 2) := by decide +kernel
theorem dX12_init_55 : decode cX12_init 55 = .ok (.dup, 1) := by decide +kernel
theorem dX12_init_56 : decode cX12_init 56 = .ok (.iconst 0, 1) := by decide +kernel
theorem dX12_init_57 : decode cX12_init 57 = .ok (.ldc2_w 30, 3) := by decide +kernel
theorem dX12_init_60 : decode cX12_init 60 = .ok (.lastore, 1) := by decide +kernel
theorem dX12_init_61 : decode cX12_init 61 = .ok (.dup, 1) := by decide +kernel
theorem dX12_init_62 : decode cX12_init 62 = .ok (.iconst 1, 1) := by decide +kernel
theorem dX12_init_63 : decode cX12_init 63 = .ok (.ldc2_w 32, 3) := by decide +kernel
theorem dX12_init_66 : decode cX12_init 66 = .ok (.lastore, 1) := by decide +kernel
theorem dX12_init_67 : decode cX12_init 67 = .ok (.dup, 1) := by decide +kernel
theorem dX12_init_68 : decode cX12_init 68 = .ok (.iconst 2, 1) := by decide +kernel
theorem dX12_init_69 : decode cX12_init 69 = .ok (.ldc2_w 34, 3) := by decide +kernel
theorem dX12_init_72 : decode cX12_init 72 = .ok (.lastore, 1) := by decide +kernel
theorem dX12_init_73 : decode cX12_init 73 = .ok (.dup, 1) := by decide +kernel
theorem dX12_init_74 : decode cX12_init 74 = .ok (.iconst 3, 1) := by decide +kernel
theorem dX12_init_75 : decode cX12_init 75 = .ok (.ldc2_w 36, 3) := by decide +kernel
theorem dX12_init_78 : decode cX12_init 78 = .ok (.lastore, 1) := by decide +kernel
theorem dX12_init_79 : decode cX12_init 79 = .ok (.dup, 1) := by decide +kernel
theorem dX12_init_80 : decode cX12_init 80 = .ok (.iconst 4, 1) := by decide +kernel
theorem dX12_init_81 : decode cX12_init 81 = .ok (.ldc2_w 38, 3) := by decide +kernel
theorem dX12_init_84 : decode cX12_init 84 = .ok (.lastore, 1) := by decide +kernel
theorem dX12_init_85 : decode cX12_init 85 = .ok (.dup, 1) := by decide +kernel
theorem dX12_init_86 : decode cX12_init 86 = .ok (.iconst 5, 1) := by decide +kernel
theorem dX12_init_87 : decode cX12_init 87 = .ok (.ldc2_w 40, 3) := by decide +kernel
theorem dX12_init_90 : decode cX12_init 90 = .ok (.lastore, 1) := by decide +kernel
theorem dX12_init_91 : decode cX12_init 91 = .ok (.dup, 1) := by decide +kernel
theorem dX12_init_92 : decode cX12_init 92 = .ok (.bipush 6, 2) := by decide +kernel
theorem dX12_init_94 : decode cX12_init 94 = .ok (.ldc2_w 42, 3) := by decide +kernel
theorem dX12_init_97 : decode cX12_init 97 = .ok (.lastore, 1) := by decide +kernel
theorem dX12_init_98 : decode cX12_init 98 = .ok (.dup, 1) := by decide +kernel
theorem dX12_init_99 : decode cX12_init 99 = .ok (.bipush 7, 2) := by decide +kernel
theorem dX12_init_101 : decode cX12_init 101 = .ok (.ldc2_w 44, 3) := by decide +kernel
theorem dX12_init_104 : decode cX12_init 104 = .ok (.lastore, 1) := by decide +kernel
theorem dX12_init_105 : decode cX12_init 105 = .ok (.dup, 1) := by decide +kernel
theorem dX12_init_106 : decode cX12_init 106 = .ok (.bipush 8, 2) := by decide +kernel
theorem dX12_init_108 : decode cX12_init 108 = .ok (.ldc2_w 46, 3) := by decide +kernel
theorem dX12_init_111 : decode cX12_init 111 = .ok (.lastore, 1) := by decide +kernel
theorem dX12_init_112 : decode cX12_init 112 = .ok (.dup, 1) := by decide +kernel
theorem dX12_init_113 : decode cX12_init 113 = .ok (.bipush 9, 2) := by decide +kernel
theorem dX12_init_115 : decode cX12_init 115 = .ok (.ldc2_w 48, 3) := by decide +kernel
theorem dX12_init_118 : decode cX12_init 118 = .ok (.lastore, 1) := by decide +kernel
theorem dX12_init_119 : decode cX12_init 119 = .ok (.dup, 1) := by decide +kernel
theorem dX12_init_120 : decode cX12_init 120 = .ok (.bipush 10, 2) := by decide +kernel
theorem dX12_init_122 : decode cX12_init 122 = .ok (.ldc2_w 50, 3) := by decide +kernel
theorem dX12_init_125 : decode cX12_init 125 = .ok (.lastore, 1) := by decide +kernel
theorem dX12_init_126 : decode cX12_init 126 = .ok (.dup, 1) := by decide +kernel
theorem dX12_init_127 : decode cX12_init 127 = .ok (.bipush 11, 2) := by decide +kernel
theorem dX12_init_129 : decode cX12_init 129 = .ok (.ldc2_w 52, 3) := by decide +kernel
theorem dX12_init_132 : decode cX12_init 132 = .ok (.lastore, 1) := by decide +kernel
theorem dX12_init_133 : decode cX12_init 133 = .ok (.dup, 1) := by decide +kernel
theorem dX12_init_134 : decode cX12_init 134 = .ok (.bipush 12, 2) := by decide +kernel
theorem dX12_init_136 : decode cX12_init 136 = .ok (.ldc2_w 54, 3) := by decide +kernel
theorem dX12_init_139 : decode cX12_init 139 = .ok (.lastore, 1) := by decide +kernel
theorem dX12_init_140 : decode cX12_init 140 = .ok (.dup, 1) := by decide +kernel
theorem dX12_init_141 : decode cX12_init 141 = .ok (.bipush 13, 2) := by decide +kernel
theorem dX12_init_143 : decode cX12_init 143 = .ok (.ldc2_w 56, 3) := by decide +kernel
theorem dX12_init_146 : decode cX12_init 146 = .ok (.lastore, 1) := by decide +kernel
theorem dX12_init_147 : decode cX12_init 147 = .ok (.dup, 1) := by decide +kernel
theorem dX12_init_148 : decode cX12_init 148 = .ok (.bipush 14, 2) := by decide +kernel
theorem dX12_init_150 : decode cX12_init 150 = .ok (.ldc2_w 58, 3) := by decide +kernel
theorem dX12_init_153 : decode cX12_init 153 = .ok (.lastore, 1) := by decide +kernel
theorem dX12_init_154 : decode cX12_init 154 = .ok (.dup, 1) := by decide +kernel
theorem dX12_init_155 : decode cX12_init 155 = .ok (.bipush 15, 2) := by decide +kernel
theorem dX12_init_157 : decode cX12_init 157 = .ok (.ldc2_w 60, 3) := by decide +kernel
theorem dX12_init_160 : decode cX12_init 160 = .ok (.lastore, 1) := by decide +kernel
theorem dX12_init_161 : decode cX12_init 161 = .ok (.dup, 1) := by decide +kernel
theorem dX12_init_162 : decode cX12_init 162 = .ok (.bipush 16, 2) := by decide +kernel
theorem dX12_init_164 : decode cX12_init 164 = .ok (.ldc2_w 62, 3) := by decide +kernel
theorem dX12_init_167 : decode cX12_init 167 = .ok (.lastore, 1) := by decide +kernel
theorem dX12_init_168 : decode cX12_init 168 = .ok (.dup, 1) := by decide +kernel
theorem dX12_init_169 : decode cX12_init 169 = .ok (.bipush 17, 2) := by decide +kernel
theorem dX12_init_171 : decode cX12_init 171 = .ok (.ldc2_w 64, 3) := by decide +kernel
theorem dX12_init_174 : decode cX12_init 174 = .ok (.lastore, 1) := by decide +kernel
theorem dX12_init_175 : decode cX12_init 175 = .ok (.dup, 1) := by decide +kernel
theorem dX12_init_176 : decode cX12_init 176 = .ok (.bipush 18, 2) := by decide +kernel
theorem dX12_init_178 : decode cX12_init 178 = .ok (.ldc2_w 66, 3) := by decide +kernel
theorem dX12_init_181 : decode cX12_init 181 = .ok (.lastore, 1) := by decide +kernel
theorem dX12_init_182 : decode cX12_init 182 = .ok (.dup, 1) := by decide +kernel
theorem dX12_init_183 : decode cX12_init 183 = .ok (.bipush 19, 2) := by decide +kernel
theorem dX12_init_185 : decode cX12_init 185 = .ok (.ldc2_w 68, 3) := by decide +kernel
theorem dX12_init_188 : decode cX12_init 188 = .ok (.lastore, 1) := by decide +kernel
theorem dX12_init_189 : decode cX12_init 189 = .ok (.dup, 1) := by decide +kernel
theorem dX12_init_190 : decode cX12_init 190 = .ok (.bipush 20, 2) := by decide +kernel
theorem dX12_init_192 : decode cX12_init 192 = .ok (.ldc2_w 70, 3) := by decide +kernel
theorem dX12_init_195 : decode cX12_init 195 = .ok (.lastore, 1) := by decide +kernel
theorem dX12_init_196 : decode cX12_init 196 = .ok (.dup, 1) := by decide +kernel
theorem dX12_init_197 : decode cX12_init 197 = .ok (.bipush 21, 2) := by decide +kernel
theorem dX12_init_199 : decode cX12_init 199 = .ok (.ldc2_w 72, 3) := by decide +kernel
theorem dX12_init_202 : decode cX12_init 202 = .ok (.lastore, 1) := by decide +kernel
theorem dX12_init_203 : decode cX12_init 203 = .ok (.dup, 1) := by decide +kernel
theorem dX12_init_204 : decode cX12_init 204 = .ok (.bipush 22, 2) := by decide +kernel
theorem dX12_init_206 : decode cX12_init 206 = .ok (.ldc2_w 74, 3) := by decide +kernel
theorem dX12_init_209 : decode cX12_init 209 = .ok (.lastore, 1) := by decide +kernel
theorem dX12_init_210 : decode cX12_init 210 = .ok (.dup, 1) := by decide +kernel
theorem dX12_init_211 : decode cX12_init 211 = .ok (.bipush 23, 2) := by decide +kernel
theorem dX12_init_213 : decode cX12_init 213 = .ok (.ldc2_w 76, 3) := by decide +kernel
theorem dX12_init_216 : decode cX12_init 216 = .ok (.lastore, 1) := by decide +kernel
theorem dX12_init_217 : decode cX12_init 217 = .ok (.dup, 1) := by decide +kernel
theorem dX12_init_218 : decode cX12_init 218 = .ok (.bipush 24, 2) := by decide +kernel
theorem dX12_init_220 : decode cX12_init 220 = .ok (.ldc2_w 78, 3) := by decide +kernel
theorem dX12_init_223 : decode cX12_init 223 = .ok (.lastore, 1) := by decide +kernel
theorem dX12_init_224 : decode cX12_init 224 = .ok (.putfield 80, 3) := by decide +kernel
theorem dX12_init_227 : decode cX12_init 227 = .ok (.aload_n 0, 1) := by decide +kernel
theorem dX12_init_228 : decode cX12_init 228 = .ok (.sipush 3000, 3) := by decide +kernel
theorem dX12_init_231 : decode cX12_init 231 = .ok (.newarray .int, 2) := by decide +kernel
theorem dX12_init_233 : decode cX12_init 233 = .ok (.putfield 84, 3) := by decide +kernel
theorem dX12_init_236 : decode cX12_init 236 = .ok (.aload_n 0, 1) := by decide +kernel
theorem dX12_init_237 : decode cX12_init 237 = .ok (.sipush 3000, 3) := by decide +kernel
theorem dX12_init_240 : decode cX12_init 240 = .ok (.newarray .int, 2) := by decide +kernel
theorem dX12_init_242 : decode cX12_init 242 = .ok (.putfield 87, 3) := by decide +kernel
theorem dX12_init_245 : decode cX12_init 245 = .ok (.aload_n 0, 1) := by decide +kernel
theorem dX12_init_246 : decode cX12_init 246 = .ok (.sipush 3000, 3) := by decide +kernel
theorem dX12_init_249 : decode cX12_init 249 = .ok (.newarray .int, 2) := by decide +kernel
theorem dX12_init_251 : decode cX12_init 251 = .ok (.putfield 90, 3) := by decide +kernel
theorem dX12_init_254 : decode cX12_init 254 = .ok (.aload_n 0, 1) := by decide +kernel
theorem dX12_init_255 : decode cX12_init 255 = .ok (.sipush 500, 3) := by decide +kernel
theorem dX12_init_258 : decode cX12_init 258 = .ok (.newarray .int, 2) := by decide +kernel
theorem dX12_init_260 : decode cX12_init 260 = .ok (.putfield 93, 3) := by decide +kernel
theorem dX12_init_263 : decode cX12_init 263 = .ok (.aload_n 0, 1) := by decide +kernel
theorem dX12_init_264 : decode cX12_init 264 = .ok (.sipush 500, 3) := by decide +kernel
theorem dX12_init_267 : decode cX12_init 267 = .ok (.newarray .int, 2) := by decide +kernel
theorem dX12_init_269 : decode cX12_init 269 = .ok (.putfield 96, 3) := by decide +kernel
theorem dX12_init_272 : decode cX12_init 272 = .ok (.aload_n 0, 1) := by decide +kernel
theorem dX12_init_273 : decode cX12_init 273 = .ok (.sipush 500, 3) := by decide +kernel
theorem dX12_init_276 : decode cX12_init 276 = .ok (.newarray .int, 2) := by decide +kernel
theorem dX12_init_278 : decode cX12_init 278 = .ok (.putfield 99, 3) := by decide +kernel
theorem dX12_init_281 : decode cX12_init 281 = .ok (.aload_n 0, 1) := by decide +kernel
theorem dX12_init_282 : decode cX12_init 282 = .ok (.sipush 500, 3) := by decide +kernel
theorem dX12_init_285 : decode cX12_init 285 = .ok (.newarray .boolean, 2) := by decide +kernel
theorem dX12_init_287 : decode cX12_init 287 = .ok (.putfield 102, 3) := by decide +kernel
theorem dX12_init_290 : decode cX12_init 290 = .ok (.aload_n 0, 1) := by decide +kernel
theorem dX12_init_291 : decode cX12_init 291 = .ok (.sipush 200, 3) := by decide +kernel
theorem dX12_init_294 : decode cX12_init 294 = .ok (.newarray .int, 2) := by decide +kernel
theorem dX12_init_296 : decode cX12_init 296 = .ok (.putfield 105, 3) := by decide +kernel
theorem dX12_init_299 : decode cX12_init 299 = .ok (.aload_n 0, 1) := by decide +kernel
theorem dX12_init_300 : decode cX12_init 300 = .ok (.sipush 200, 3) := by decide +kernel
theorem dX12_init_303 : decode cX12_init 303 = .ok (.newarray .int, 2) := by decide +kernel
theorem dX12_init_305 : decode cX12_init 305 = .ok (.putfield 108, 3) := by decide +kernel
theorem dX12_init_308 : decode cX12_init 308 = .ok (.aload_n 0, 1) := by decide +kernel
theorem dX12_init_309 : decode cX12_init 309 = .ok (.sipush 200, 3) := by decide +kernel
theorem dX12_init_312 : decode cX12_init 312 = .ok (.newarray .int, 2) := by decide +kernel
theorem dX12_init_314 : decode cX12_init 314 = .ok (.putfield 111, 3) := by decide +kernel
theorem dX12_init_317 : decode cX12_init 317 = .ok (.aload_n 0, 1) := by decide +kernel
theorem dX12_init_318 : decode cX12_init 318 = .ok (.sipush 400, 3) := by decide +kernel
theorem dX12_init_321 : decode cX12_init 321 = .ok (.newarray .int, 2) := by decide +kernel
theorem dX12_init_323 : decode cX12_init 323 = .ok (.putfield 114, 3) := by decide +kernel
theorem dX12_init_326 : decode cX12_init 326 = .ok (.aload_n 0, 1) := by decide +kernel
theorem dX12_init_327 : decode cX12_init 327 = .ok (.sipush 400, 3) := by decide +kernel
theorem dX12_init_330 : decode cX12_init 330 = .ok (.newarray .int, 2) := by decide +kernel
theorem dX12_init_332 : decode cX12_init 332 = .ok (.putfield 117, 3) := by decide +kernel
theorem dX12_init_335 : decode cX12_init 335 = .ok (.aload_n 0, 1) := by decide +kernel
theorem dX12_init_336 : decode cX12_init 336 = .ok (.sipush 400, 3) := by decide +kernel
theorem dX12_init_339 : decode cX12_init 339 = .ok (.newarray .int, 2) := by decide +kernel
theorem dX12_init_341 : decode cX12_init 341 = .ok (.putfield 120, 3) := by decide +kernel
theorem dX12_init_344 : decode cX12_init 344 = .ok (.aload_n 0, 1) := by decide +kernel
theorem dX12_init_345 : decode cX12_init 345 = .ok (.sipush 400, 3) := by decide +kernel
theorem dX12_init_348 : decode cX12_init 348 = .ok (.newarray .int, 2) := by decide +kernel
theorem dX12_init_350 : decode cX12_init 350 = .ok (.putfield 123, 3) := by decide +kernel
theorem dX12_init_353 : decode cX12_init 353 = .ok (.aload_n 0, 1) := by decide +kernel
theorem dX12_init_354 : decode cX12_init 354 = .ok (.sipush 460, 3) := by decide +kernel
theorem dX12_init_357 : decode cX12_init 357 = .ok (.newarray .long, 2) := by decide +kernel
theorem dX12_init_359 : decode cX12_init 359 = .ok (.putfield 126, 3) := by decide +kernel
theorem dX12_init_362 : decode cX12_init 362 = .ok (.aload_n 0, 1) := by decide +kernel
theorem dX12_init_363 : decode cX12_init 363 = .ok (.sipush 460, 3) := by decide +kernel
theorem dX12_init_366 : decode cX12_init 366 = .ok (.newarray .int, 2) := by decide +kernel
theorem dX12_init_368 : decode cX12_init 368 = .ok (.putfield 129, 3) := by decide +kernel
theorem dX12_init_371 : decode cX12_init 371 = .ok (.aload_n 0, 1) := by decide +kernel
theorem dX12_init_372 : decode cX12_init 372 = .ok (.sipush 460, 3) := by decide +kernel
theorem dX12_init_375 : decode cX12_init 375 = .ok (.newarray .boolean, 2) := by decide +kernel
theorem dX12_init_377 : decode cX12_init 377 = .ok (.putfield 132, 3) := by decide +kernel
theorem dX12_init_380 : decode cX12_init 380 = .ok (.aload_n 0, 1) := by decide +kernel
theorem dX12_init_381 : decode cX12_init 381 = .ok (.sipush 460, 3) := by decide +kernel
theorem dX12_init_384 : decode cX12_init 384 = .ok (.newarray .int, 2) := by decide +kernel
theorem dX12_init_386 : decode cX12_init 386 = .ok (.putfield 135, 3) := by decide +kernel
theorem dX12_init_389 : decode cX12_init 389 = .ok (.aload_n 0, 1) := by decide +kernel
theorem dX12_init_390 : decode cX12_init 390 = .ok (.sipush 460, 3) := by decide +kernel
theorem dX12_init_393 : decode cX12_init 393 = .ok (.newarray .long, 2) := by decide +kernel
theorem dX12_init_395 : decode cX12_init 395 = .ok (.putfield 138, 3) := by decide +kernel
theorem dX12_init_398 : decode cX12_init 398 = .ok (.aload_n 0, 1) := by decide +kernel
theorem dX12_init_399 : decode cX12_init 399 = .ok (.sipush 460, 3) := by decide +kernel
theorem dX12_init_402 : decode cX12_init 402 = .ok (.newarray .int, 2) := by decide +kernel
theorem dX12_init_404 : decode cX12_init 404 = .ok (.putfield 141, 3) := by decide +kernel
theorem dX12_init_407 : decode cX12_init 407 = .ok (.aload_n 0, 1) := by decide +kernel
theorem dX12_init_408 : decode cX12_init 408 = .ok (.sipush 460, 3) := by decide +kernel
theorem dX12_init_411 : decode cX12_init 411 = .ok (.newarray .int, 2) := by decide +kernel
theorem dX12_init_413 : decode cX12_init 413 = .ok (.putfield 144, 3) := by decide +kernel
theorem dX12_init_416 : decode cX12_init 416 = .ok (.aload_n 0, 1) := by decide +kernel
theorem dX12_init_417 : decode cX12_init 417 = .ok (.sipush 460, 3) := by decide +kernel
theorem dX12_init_420 : decode cX12_init 420 = .ok (.newarray .int, 2) := by decide +kernel
theorem dX12_init_422 : decode cX12_init 422 = .ok (.putfield 147, 3) := by decide +kernel
theorem dX12_init_425 : decode cX12_init 425 = .ok (.aload_n 0, 1) := by decide +kernel
theorem dX12_init_426 : decode cX12_init 426 = .ok (.sipush 460, 3) := by decide +kernel
theorem dX12_init_429 : decode cX12_init 429 = .ok (.newarray .int, 2) := by decide +kernel
theorem dX12_init_431 : decode cX12_init 431 = .ok (.putfield 150, 3) := by decide +kernel
theorem dX12_init_434 : decode cX12_init 434 = .ok (.aload_n 0, 1) := by decide +kernel
theorem dX12_init_435 : decode cX12_init 435 = .ok (.sipush 460, 3) := by decide +kernel
theorem dX12_init_438 : decode cX12_init 438 = .ok (.newarray .boolean, 2) := by decide +kernel
theorem dX12_init_440 : decode cX12_init 440 = .ok (.putfield 153, 3) := by decide +kernel
theorem dX12_init_443 : decode cX12_init 443 = .ok (.aload_n 0, 1) := by decide +kernel
theorem dX12_init_444 : decode cX12_init 444 = .ok (.sipush 460, 3) := by decide +kernel
theorem dX12_init_447 : decode cX12_init 447 = .ok (.newarray .boolean, 2) := by decide +kernel
theorem dX12_init_449 : decode cX12_init 449 = .ok (.putfield 156, 3) := by decide +kernel
theorem dX12_init_452 : decode cX12_init 452 = .ok (.aload_n 0, 1) := by decide +kernel
theorem dX12_init_453 : decode cX12_init 453 = .ok (.bipush 40, 2) := by decide +kernel
theorem dX12_init_455 : decode cX12_init 455 = .ok (.newarray .int, 2) := by decide +kernel
theorem dX12_init_457 : decode cX12_init 457 = .ok (.putfield 159, 3) := by decide +kernel
theorem dX12_init_460 : decode cX12_init 460 = .ok (.aload_n 0, 1) := by decide +kernel
theorem dX12_init_461 : decode cX12_init 461 = .ok (.bipush 40, 2) := by decide +kernel
theorem dX12_init_463 : decode cX12_init 463 = .ok (.newarray .int, 2) := by decide +kernel
theorem dX12_init_465 : decode cX12_init 465 = .ok (.putfield 162, 3) := by decide +kernel
theorem dX12_init_468 : decode cX12_init 468 = .ok (.aload_n 0, 1) := by decide +kernel
theorem dX12_init_469 : decode cX12_init 469 = .ok (.sipush 300, 3) := by decide +kernel
theorem dX12_init_472 : decode cX12_init 472 = .ok (.newarray .int, 2) := by decide +kernel
theorem dX12_init_474 : decode cX12_init 474 = .ok (.putfield 165, 3) := by decide +kernel
theorem dX12_init_477 : decode cX12_init 477 = .ok (.aload_n 0, 1) := by decide +kernel
theorem dX12_init_478 : decode cX12_init 478 = .ok (.sipush 300, 3) := by decide +kernel
theorem dX12_init_481 : decode cX12_init 481 = .ok (.newarray .boolean, 2) := by decide +kernel
theorem dX12_init_483 : decode cX12_init 483 = .ok (.putfield 168, 3) := by decide +kernel
theorem dX12_init_486 : decode cX12_init 486 = .ok (.aload_n 0, 1) := by decide +kernel
theorem dX12_init_487 : decode cX12_init 487 = .ok (.sipush 300, 3) := by decide +kernel
theorem dX12_init_490 : decode cX12_init 490 = .ok (.newarray .int, 2) := by decide +kernel
theorem dX12_init_492 : decode cX12_init 492 = .ok (.putfield 171, 3) := by decide +kernel
theorem dX12_init_495 : decode cX12_init 495 = .ok (.aload_n 0, 1) := by decide +kernel
theorem dX12_init_496 : decode cX12_init 496 = .ok (.sipush 1000, 3) := by decide +kernel
theorem dX12_init_499 : decode cX12_init 499 = .ok (.newarray .int, 2) := by decide +kernel
theorem dX12_init_501 : decode cX12_init 501 = .ok (.putfield 174, 3) := by decide +kernel
theorem dX12_init_504 : decode cX12_init 504 = .ok (.aload_n 0, 1) := by decide +kernel
theorem dX12_init_505 : decode cX12_init 505 = .ok (.sipush 1000, 3) := by decide +kernel
theorem dX12_init_508 : decode cX12_init 508 = .ok (.newarray .int, 2) := by decide +kernel
theorem dX12_init_510 : decode cX12_init 510 = .ok (.putfield 177, 3) := by decide +kernel
theorem dX12_init_513 : decode cX12_init 513 = .ok (.aload_n 0, 1) := by decide +kernel
theorem dX12_init_514 : decode cX12_init 514 = .ok (.sipush 1000, 3) := by decide +kernel
theorem dX12_init_517 : decode cX12_init 517 = .ok (.newarray .int, 2) := by decide +kernel
theorem dX12_init_519 : decode cX12_init 519 = .ok (.putfield 180, 3) := by decide +kernel
theorem dX12_init_522 : decode cX12_init 522 = .ok (.aload_n 0, 1) := by decide +kernel
theorem dX12_init_523 : decode cX12_init 523 = .ok (.sipush 1000, 3) := by decide +kernel
theorem dX12_init_526 : decode cX12_init 526 = .ok (.newarray .int, 2) := by decide +kernel
theorem dX12_init_528 : decode cX12_init 528 = .ok (.putfield 183, 3) := by decide +kernel
theorem dX12_init_531 : decode cX12_init 531 = .ok (.aload_n 0, 1) := by decide +kernel
theorem dX12_init_532 : decode cX12_init 532 = .ok (.sipush 1000, 3) := by decide +kernel
theorem dX12_init_535 : decode cX12_init 535 = .ok (.newarray .int, 2) := by decide +kernel
theorem dX12_init_537 : decode cX12_init 537 = .ok (.putfield 186, 3) := by decide +kernel
theorem dX12_init_540 : decode cX12_init 540 = .ok (.aload_n 0, 1) := by decide +kernel
theorem dX12_init_541 : decode cX12_init 541 = .ok (.sipush 1000, 3) := by decide +kernel
theorem dX12_init_544 : decode cX12_init 544 = .ok (.newarray .int, 2) := by decide +kernel
theorem dX12_init_546 : decode cX12_init 546 = .ok (.putfield 189, 3) := by decide +kernel
theorem dX12_init_549 : decode cX12_init 549 = .ok (.aload_n 0, 1) := by decide +kernel
theorem dX12_init_550 : decode cX12_init 550 = .ok (.sipush 1000, 3) := by decide +kernel
theorem dX12_init_553 : decode cX12_init 553 = .ok (.newarray .int, 2) := by decide +kernel
theorem dX12_init_555 : decode cX12_init 555 = .ok (.putfield 192, 3) := by decide +kernel
theorem dX12_init_558 : decode cX12_init 558 = .ok (.aload_n 0, 1) := by decide +kernel
theorem dX12_init_559 : decode cX12_init 559 = .ok (.sipush 1000, 3) := by decide +kernel
theorem dX12_init_562 : decode cX12_init 562 = .ok (.newarray .int, 2) := by decide +kernel
theorem dX12_init_564 : decode cX12_init 564 = .ok (.putfield 195, 3) := by decide +kernel
theorem dX12_init_567 : decode cX12_init 567 = .ok (.aload_n 0, 1) := by decide +kernel
theorem dX12_init_568 : decode cX12_init 568 = .ok (.sipush 1000, 3) := by decide +kernel
theorem dX12_init_571 : decode cX12_init 571 = .ok (.newarray .int, 2) := by decide +kernel
theorem dX12_init_573 : decode cX12_init 573 = .ok (.putfield 198, 3) := by decide +kernel
theorem dX12_init_576 : decode cX12_init 576 = .ok (.aload_n 0, 1) := by decide +kernel
theorem dX12_init_577 : decode cX12_init 577 = .ok (.sipush 1000, 3) := by decide +kernel
theorem dX12_init_580 : decode cX12_init 580 = .ok (.newarray .int, 2) := by decide +kernel
theorem dX12_init_582 : decode cX12_init 582 = .ok (.putfield 201, 3) := by decide +kernel
theorem dX12_init_585 : decode cX12_init 585 = .ok (.aload_n 0, 1) := by decide +kernel
theorem dX12_init_586 : decode cX12_init 586 = .ok (.sipush 1000, 3) := by decide +kernel
theorem dX12_init_589 : decode cX12_init 589 = .ok (.newarray .long, 2) := by decide +kernel
theorem dX12_init_591 : decode cX12_init 591 = .ok (.putfield 204, 3) := by decide +kernel
theorem dX12_init_594 : decode cX12_init 594 = .ok (.aload_n 0, 1) := by decide +kernel
theorem dX12_init_595 : decode cX12_init 595 = .ok (.sipush 200, 3) := by decide +kernel
theorem dX12_init_598 : decode cX12_init 598 = .ok (.newarray .int, 2) := by decide +kernel
theorem dX12_init_600 : decode cX12_init 600 = .ok (.putfield 207, 3) := by decide +kernel
theorem dX12_init_603 : decode cX12_init 603 = .ok (.aload_n 0, 1) := by decide +kernel
theorem dX12_init_604 : decode cX12_init 604 = .ok (.sipush 200, 3) := by decide +kernel
theorem dX12_init_607 : decode cX12_init 607 = .ok (.newarray .int, 2) := by decide +kernel
theorem dX12_init_609 : decode cX12_init 609 = .ok (.putfield 210, 3) := by decide +kernel
theorem dX12_init_612 : decode cX12_init 612 = .ok (.aload_n 0, 1) := by decide +kernel
theorem dX12_init_613 : decode cX12_init 613 = .ok (.sipush 460, 3) := by decide +kernel
theorem dX12_init_616 : decode cX12_init 616 = .ok (.newarray .int, 2) := by decide +kernel
theorem dX12_init_618 : decode cX12_init 618 = .ok (.putfield 213, 3) := by decide +kernel
theorem dX12_init_621 : decode cX12_init 621 = .ok (.aload_n 0, 1) := by decide +kernel
theorem dX12_init_622 : decode cX12_init 622 = .ok (.sipush 3200, 3) := by decide +kernel
theorem dX12_init_625 : decode cX12_init 625 = .ok (.newarray .int, 2) := by decide +kernel
theorem dX12_init_627 : decode cX12_init 627 = .ok (.putfield 216, 3) := by decide +kernel
theorem dX12_init_630 : decode cX12_init 630 = .ok (.aload_n 0, 1) := by decide +kernel
theorem dX12_init_631 : decode cX12_init 631 = .ok (.sipush 3200, 3) := by decide +kernel
theorem dX12_init_634 : decode cX12_init 634 = .ok (.newarray .int, 2) := by decide +kernel
theorem dX12_init_636 : decode cX12_init 636 = .ok (.putfield 219, 3) := by decide +kernel
theorem dX12_init_639 : decode cX12_init 639 = .ok (.aload_n 0, 1) := by decide +kernel
theorem dX12_init_640 : decode cX12_init 640 = .ok (.sipush 3200, 3) := by decide +kernel
theorem dX12_init_643 : decode cX12_init 643 = .ok (.newarray .int, 2) := by decide +kernel
theorem dX12_init_645 : decode cX12_init 645 = .ok (.putfield 222, 3) := by decide +kernel
theorem dX12_init_648 : decode cX12_init 648 = .ok (.aload_n 0, 1) := by decide +kernel
theorem dX12_init_649 : decode cX12_init 649 = .ok (.sipush 25600, 3) := by decide +kernel
theorem dX12_init_652 : decode cX12_init 652 = .ok (.newarray .int, 2) := by decide +kernel
theorem dX12_init_654 : decode cX12_init 654 = .ok (.putfield 225, 3) := by decide +kernel
theorem dX12_init_657 : decode cX12_init 657 = .ok (.aload_n 0, 1) := by decide +kernel
theorem dX12_init_658 : decode cX12_init 658 = .ok (.sipush 25600, 3) := by decide +kernel
theorem dX12_init_661 : decode cX12_init 661 = .ok (.newarray .int, 2) := by decide +kernel
theorem dX12_init_663 : decode cX12_init 663 = .ok (.putfield 228, 3) := by decide +kernel
theorem dX12_init_666 : decode cX12_init 666 = .ok (.aload_n 0, 1) := by decide +kernel
theorem dX12_init_667 : decode cX12_init 667 = .ok (.bipush 8, 2) := by decide +kernel
theorem dX12_init_669 : decode cX12_init 669 = .ok (.newarray .int, 2) := by decide +kernel
theorem dX12_init_671 : decode cX12_init 671 = .ok (.putfield 231, 3) := by decide +kernel
theorem dX12_init_674 : decode cX12_init 674 = .ok (.aload_n 0, 1) := by decide +kernel
theorem dX12_init_675 : decode cX12_init 675 = .ok (.sipush 1400, 3) := by decide +kernel
theorem dX12_init_678 : decode cX12_init 678 = .ok (.newarray .int, 2) := by decide +kernel
theorem dX12_init_680 : decode cX12_init 680 = .ok (.putfield 234, 3) := by decide +kernel
theorem dX12_init_683 : decode cX12_init 683 = .ok (.aload_n 0, 1) := by decide +kernel
theorem dX12_init_684 : decode cX12_init 684 = .ok (.sipush 460, 3) := by decide +kernel
theorem dX12_init_687 : decode cX12_init 687 = .ok (.newarray .int, 2) := by decide +kernel
theorem dX12_init_689 : decode cX12_init 689 = .ok (.putfield 237, 3) := by decide +kernel
theorem dX12_init_692 : decode cX12_init 692 = .ok (.aload_n 0, 1) := by decide +kernel
theorem dX12_init_693 : decode cX12_init 693 = .ok (.sipush 460, 3) := by decide +kernel
theorem dX12_init_696 : decode cX12_init 696 = .ok (.newarray .int, 2) := by decide +kernel
theorem dX12_init_698 : decode cX12_init 698 = .ok (.putfield 240, 3) := by decide +kernel
theorem dX12_init_701 : decode cX12_init 701 = .ok (.aload_n 0, 1) := by decide +kernel
theorem dX12_init_702 : decode cX12_init 702 = .ok (.sipush 300, 3) := by decide +kernel
theorem dX12_init_705 : decode cX12_init 705 = .ok (.newarray .int, 2) := by decide +kernel
theorem dX12_init_707 : decode cX12_init 707 = .ok (.putfield 243, 3) := by decide +kernel
theorem dX12_init_710 : decode cX12_init 710 = .ok (.aload_n 0, 1) := by decide +kernel
theorem dX12_init_711 : decode cX12_init 711 = .ok (.sipush 300, 3) := by decide +kernel
theorem dX12_init_714 : decode cX12_init 714 = .ok (.newarray .int, 2) := by decide +kernel
theorem dX12_init_716 : decode cX12_init 716 = .ok (.putfield 246, 3) := by decide +kernel
theorem dX12_init_719 : decode cX12_init 719 = .ok (.aload_n 0, 1) := by decide +kernel
theorem dX12_init_720 : decode cX12_init 720 = .ok (.sipush 300, 3) := by decide +kernel
theorem dX12_init_723 : decode cX12_init 723 = .ok (.newarray .int, 2) := by decide +kernel
theorem dX12_init_725 : decode cX12_init 725 = .ok (.putfield 249, 3) := by decide +kernel
theorem dX12_init_728 : decode cX12_init 728 = .ok (.aload_n 0, 1) := by decide +kernel
theorem dX12_init_729 : decode cX12_init 729 = .ok (.sipush 300, 3) := by decide +kernel
theorem dX12_init_732 : decode cX12_init 732 = .ok (.newarray .int, 2) := by decide +kernel
theorem dX12_init_734 : decode cX12_init 734 = .ok (.putfield 252, 3) := by decide +kernel
theorem dX12_init_737 : decode cX12_init 737 = .ok (.aload_n 0, 1) := by decide +kernel
theorem dX12_init_738 : decode cX12_init 738 = .ok (.sipush 300, 3) := by decide +kernel
theorem dX12_init_741 : decode cX12_init 741 = .ok (.newarray .int, 2) := by decide +kernel
theorem dX12_init_743 : decode cX12_init 743 = .ok (.putfield 255, 3) := by decide +kernel
theorem dX12_init_746 : decode cX12_init 746 = .ok (.aload_n 0, 1) := by decide +kernel
theorem dX12_init_747 : decode cX12_init 747 = .ok (.sipush 300, 3) := by decide +kernel
theorem dX12_init_750 : decode cX12_init 750 = .ok (.newarray .int, 2) := by decide +kernel
theorem dX12_init_752 : decode cX12_init 752 = .ok (.putfield 258, 3) := by decide +kernel
theorem dX12_init_755 : decode cX12_init 755 = .ok (.aload_n 0, 1) := by decide +kernel
theorem dX12_init_756 : decode cX12_init 756 = .ok (.sipush 300, 3) := by decide +kernel
theorem dX12_init_759 : decode cX12_init 759 = .ok (.newarray .int, 2) := by decide +kernel
theorem dX12_init_761 : decode cX12_init 761 = .ok (.putfield 261, 3) := by decide +kernel
theorem dX12_init_764 : decode cX12_init 764 = .ok (.aload_n 0, 1) := by decide +kernel
theorem dX12_init_765 : decode cX12_init 765 = .ok (.sipush 300, 3) := by decide +kernel
theorem dX12_init_768 : decode cX12_init 768 = .ok (.newarray .int, 2) := by decide +kernel
theorem dX12_init_770 : decode cX12_init 770 = .ok (.putfield 264, 3) := by decide +kernel
theorem dX12_init_773 : decode cX12_init 773 = .ok (.aload_n 0, 1) := by decide +kernel
theorem dX12_init_774 : decode cX12_init 774 = .ok (.sipush 300, 3) := by decide +kernel
theorem dX12_init_777 : decode cX12_init 777 = .ok (.newarray .int, 2) := by decide +kernel
theorem dX12_init_779 : decode cX12_init 779 = .ok (.putfield 267, 3) := by decide +kernel
theorem dX12_init_782 : decode cX12_init 782 = .ok (.aload_n 0, 1) := by decide +kernel
theorem dX12_init_783 : decode cX12_init 783 = .ok (.sipush 300, 3) := by decide +kernel
theorem dX12_init_786 : decode cX12_init 786 = .ok (.newarray .int, 2) := by decide +kernel
theorem dX12_init_788 : decode cX12_init 788 = .ok (.putfield 270, 3) := by decide +kernel
theorem dX12_init_791 : decode cX12_init 791 = .ok (.return_, 1) := by decide +kernel
theorem dX12_thrown_0 : decode cX12_thrown 0 = .ok (.aload_n 0, 1) := by decide +kernel
theorem dX12_thrown_1 : decode cX12_thrown 1 = .ok (.getfield 273, 3) := by decide +kernel
theorem dX12_thrown_4 : decode cX12_thrown 4 = .ok (.ireturn, 1) := by decide +kernel
theorem dX12_in_0 : decode cX12_in 0 = .ok (.iload_n 0, 1) := by decide +kernel
theorem dX12_in_1 : decode cX12_in 1 = .ok (.iload_n 1, 1) := by decide +kernel
theorem dX12_in_2 : decode cX12_in 2 = .ok (.if_icmp .lt 12, 3) := by decide +kernel
theorem dX12_in_5 : decode cX12_in 5 = .ok (.iload_n 0, 1) := by decide +kernel
theorem dX12_in_6 : decode cX12_in 6 = .ok (.iload_n 2, 1) := by decide +kernel
theorem dX12_in_7 : decode cX12_in 7 = .ok (.if_icmp .gt 7, 3) := by decide +kernel
theorem dX12_in_10 : decode cX12_in 10 = .ok (.iconst 1, 1) := by decide +kernel
theorem dX12_in_11 : decode cX12_in 11 = .ok (.goto 4, 3) := by decide +kernel
theorem dX12_in_14 : decode cX12_in 14 = .ok (.iconst 0, 1) := by decide +kernel
theorem dX12_in_15 : decode cX12_in 15 = .ok (.ireturn, 1) := by decide +kernel
theorem dX12_feed_0 : decode cX12_feed 0 = .ok (.aload_n 0, 1) := by decide +kernel
theorem dX12_feed_1 : decode cX12_feed 1 = .ok (.iconst 0, 1) := by decide +kernel
theorem dX12_feed_2 : decode cX12_feed 2 = .ok (.putfield 273, 3) := by decide +kernel
theorem dX12_feed_5 : decode cX12_feed 5 = .ok (.aload_n 0, 1) := by decide +kernel
theorem dX12_feed_6 : decode cX12_feed 6 = .ok (.getfield 276, 3) := by decide +kernel
theorem dX12_feed_9 : decode cX12_feed 9 = .ok (.bipush 20, 2) := by decide +kernel
theorem dX12_feed_11 : decode cX12_feed 11 = .ok (.iadd, 1) := by decide +kernel
theorem dX12_feed_12 : decode cX12_feed 12 = .ok (.sipush 900, 3) := by decide +kernel
theorem dX12_feed_15 : decode cX12_feed 15 = .ok (.if_icmp .le 6, 3) := by decide +kernel
theorem dX12_feed_21 : decode cX12_feed 21 = .ok (.iconst 0, 1) := by decide +kernel
theorem dX12_feed_22 : decode cX12_feed 22 = .ok (.istore 6, 2) := by decide +kernel
theorem dX12_feed_24 : decode cX12_feed 24 = .ok (.iload 6, 2) := by decide +kernel
theorem dX12_feed_26 : decode cX12_feed 26 = .ok (.bipush 20, 2) := by decide +kernel
theorem dX12_feed_28 : decode cX12_feed 28 = .ok (.if_icmp .ge 86, 3) := by decide +kernel
theorem dX12_feed_31 : decode cX12_feed 31 = .ok (.iload 6, 2) := by decide +kernel
theorem dX12_feed_33 : decode cX12_feed 33 = .ok (.iconst 4, 1) := by decide +kernel
theorem dX12_feed_34 : decode cX12_feed 34 = .ok (.if_icmp .ge 7, 3) := by decide +kernel
theorem dX12_feed_37 : decode cX12_feed 37 = .ok (.iload_n 1, 1) := by decide +kernel
theorem dX12_feed_38 : decode cX12_feed 38 = .ok (.goto 39, 3) := by decide +kernel
theorem dX12_feed_41 : decode cX12_feed 41 = .ok (.iload 6, 2) := by decide +kernel
theorem dX12_feed_43 : decode cX12_feed 43 = .ok (.bipush 8, 2) := by decide +kernel
theorem dX12_feed_45 : decode cX12_feed 45 = .ok (.if_icmp .ge 7, 3) := by decide +kernel
theorem dX12_feed_48 : decode cX12_feed 48 = .ok (.iload_n 2, 1) := by decide +kernel
end
section
theorem dX12_feed_49 : decode cX12_feed 49 = .ok (.goto 28, 3) := by decide +kernel
theorem dX12_feed_52 : decode cX12_feed 52 = .ok (.iload 6, 2) := by decide +kernel
theorem dX12_feed_54 : decode cX12_feed 54 = .ok (.bipush 12, 2) := by decide +kernel
theorem dX12_feed_56 : decode cX12_feed 56 = .ok (.if_icmp .ge 7, 3) := by decide +kernel
theorem dX12_feed_59 : decode cX12_feed 59 = .ok (.iload_n 3, 1) := by decide +kernel
theorem dX12_feed_60 : decode cX12_feed 60 = .ok (.goto 17, 3) := by decide +kernel
theorem dX12_feed_63 : decode cX12_feed 63 = .ok (.iload 6, 2) := by decide +kernel
theorem dX12_feed_65 : decode cX12_feed 65 = .ok (.bipush 16, 2) := by decide +kernel
theorem dX12_feed_67 : decode cX12_feed 67 = .ok (.if_icmp .ge 8, 3) := by decide +kernel
theorem dX12_feed_70 : decode cX12_feed 70 = .ok (.iload 4, 2) := by decide +kernel
theorem dX12_feed_72 : decode cX12_feed 72 = .ok (.goto 5, 3) := by decide +kernel
theorem dX12_feed_75 : decode cX12_feed 75 = .ok (.iload 5, 2) := by decide +kernel
theorem dX12_feed_77 : decode cX12_feed 77 = .ok (.istore 7, 2) := by decide +kernel
theorem dX12_feed_79 : decode cX12_feed 79 = .ok (.aload_n 0, 1) := by decide +kernel
theorem dX12_feed_80 : decode cX12_feed 80 = .ok (.getfield 7, 3) := by decide +kernel
theorem dX12_feed_83 : decode cX12_feed 83 = .ok (.aload_n 0, 1) := by decide +kernel
theorem dX12_feed_84 : decode cX12_feed 84 = .ok (.getfield 276, 3) := by decide +kernel
theorem dX12_feed_87 : decode cX12_feed 87 = .ok (.iload 6, 2) := by decide +kernel
theorem dX12_feed_89 : decode cX12_feed 89 = .ok (.iadd, 1) := by decide +kernel
theorem dX12_feed_90 : decode cX12_feed 90 = .ok (.iload 7, 2) := by decide +kernel
theorem dX12_feed_92 : decode cX12_feed 92 = .ok (.bipush 24, 2) := by decide +kernel
theorem dX12_feed_94 : decode cX12_feed 94 = .ok (.bipush 8, 2) := by decide +kernel
theorem dX12_feed_96 : decode cX12_feed 96 = .ok (.iload 6, 2) := by decide +kernel
theorem dX12_feed_98 : decode cX12_feed 98 = .ok (.iconst 4, 1) := by decide +kernel
theorem dX12_feed_99 : decode cX12_feed 99 = .ok (.irem, 1) := by decide +kernel
theorem dX12_feed_100 : decode cX12_feed 100 = .ok (.imul, 1) := by decide +kernel
theorem dX12_feed_101 : decode cX12_feed 101 = .ok (.isub, 1) := by decide +kernel
theorem dX12_feed_102 : decode cX12_feed 102 = .ok (.ishr, 1) := by decide +kernel
theorem dX12_feed_103 : decode cX12_feed 103 = .ok (.sipush 255, 3) := by decide +kernel
theorem dX12_feed_106 : decode cX12_feed 106 = .ok (.iand, 1) := by decide +kernel
theorem dX12_feed_107 : decode cX12_feed 107 = .ok (.iastore, 1) := by decide +kernel
theorem dX12_feed_108 : decode cX12_feed 108 = .ok (.iinc 6 1, 3) := by decide +kernel
theorem dX12_feed_111 : decode cX12_feed 111 = .ok (.goto (-87), 3) := by decide +kernel
theorem dX12_feed_114 : decode cX12_feed 114 = .ok (.aload_n 0, 1) := by decide +kernel
theorem dX12_feed_115 : decode cX12_feed 115 = .ok (.dup, 1) := by decide +kernel
theorem dX12_feed_116 : decode cX12_feed 116 = .ok (.getfield 276, 3) := by decide +kernel
theorem dX12_feed_119 : decode cX12_feed 119 = .ok (.bipush 20, 2) := by decide +kernel
theorem dX12_feed_121 : decode cX12_feed 121 = .ok (.iadd, 1) := by decide +kernel
theorem dX12_feed_122 : decode cX12_feed 122 = .ok (.putfield 276, 3) := by decide +kernel
theorem dX12_feed_125 : decode cX12_feed 125 = .ok (.aload_n 0, 1) := by decide +kernel
theorem dX12_feed_126 : decode cX12_feed 126 = .ok (.getfield 276, 3) := by decide +kernel
theorem dX12_feed_129 : decode cX12_feed 129 = .ok (.ireturn, 1) := by decide +kernel
theorem dX12_cut_0 : decode cX12_cut 0 = .ok (.aload_n 0, 1) := by decide +kernel
theorem dX12_cut_1 : decode cX12_cut 1 = .ok (.iconst 0, 1) := by decide +kernel
theorem dX12_cut_2 : decode cX12_cut 2 = .ok (.putfield 273, 3) := by decide +kernel
theorem dX12_cut_5 : decode cX12_cut 5 = .ok (.iload_n 1, 1) := by decide +kernel
theorem dX12_cut_6 : decode cX12_cut 6 = .ok (.iconst 0, 1) := by decide +kernel
theorem dX12_cut_7 : decode cX12_cut 7 = .ok (.aload_n 0, 1) := by decide +kernel
theorem dX12_cut_8 : decode cX12_cut 8 = .ok (.getfield 276, 3) := by decide +kernel
theorem dX12_cut_11 : decode cX12_cut 11 = .ok (.invokestatic 279, 3) := by decide +kernel
theorem dX12_cut_14 : decode cX12_cut 14 = .ok (.ifCond .ne 5, 3) := by decide +kernel
theorem dX12_cut_17 : decode cX12_cut 17 = .ok (.iconst (-1), 1) := by decide +kernel
theorem dX12_cut_18 : decode cX12_cut 18 = .ok (.ireturn, 1) := by decide +kernel
theorem dX12_cut_19 : decode cX12_cut 19 = .ok (.aload_n 0, 1) := by decide +kernel
theorem dX12_cut_20 : decode cX12_cut 20 = .ok (.getfield 276, 3) := by decide +kernel
theorem dX12_cut_23 : decode cX12_cut 23 = .ok (.iload_n 1, 1) := by decide +kernel
theorem dX12_cut_24 : decode cX12_cut 24 = .ok (.isub, 1) := by decide +kernel
theorem dX12_cut_25 : decode cX12_cut 25 = .ok (.istore_n 2, 1) := by decide +kernel
theorem dX12_cut_26 : decode cX12_cut 26 = .ok (.aload_n 0, 1) := by decide +kernel
theorem dX12_cut_27 : decode cX12_cut 27 = .ok (.iload_n 1, 1) := by decide +kernel
theorem dX12_cut_28 : decode cX12_cut 28 = .ok (.putfield 276, 3) := by decide +kernel
theorem dX12_cut_31 : decode cX12_cut 31 = .ok (.iload_n 2, 1) := by decide +kernel
theorem dX12_cut_32 : decode cX12_cut 32 = .ok (.ireturn, 1) := by decide +kernel
theorem dX12_kind_0 : decode cX12_kind 0 = .ok (.aload_n 0, 1) := by decide +kernel
theorem dX12_kind_1 : decode cX12_kind 1 = .ok (.iconst 0, 1) := by decide +kernel
theorem dX12_kind_2 : decode cX12_kind 2 = .ok (.putfield 273, 3) := by decide +kernel
theorem dX12_kind_5 : decode cX12_kind 5 = .ok (.iload_n 1, 1) := by decide +kernel
theorem dX12_kind_6 : decode cX12_kind 6 = .ok (.iconst 0, 1) := by decide +kernel
theorem dX12_kind_7 : decode cX12_kind 7 = .ok (.aload_n 0, 1) := by decide +kernel
theorem dX12_kind_8 : decode cX12_kind 8 = .ok (.getfield 13, 3) := by decide +kernel
theorem dX12_kind_11 : decode cX12_kind 11 = .ok (.iconst 1, 1) := by decide +kernel
theorem dX12_kind_12 : decode cX12_kind 12 = .ok (.isub, 1) := by decide +kernel
theorem dX12_kind_13 : decode cX12_kind 13 = .ok (.invokestatic 279, 3) := by decide +kernel
theorem dX12_kind_16 : decode cX12_kind 16 = .ok (.ifCond .ne 5, 3) := by decide +kernel
theorem dX12_kind_19 : decode cX12_kind 19 = .ok (.iconst (-1), 1) := by decide +kernel
theorem dX12_kind_20 : decode cX12_kind 20 = .ok (.ireturn, 1) := by decide +kernel
theorem dX12_kind_21 : decode cX12_kind 21 = .ok (.aload_n 0, 1) := by decide +kernel
theorem dX12_kind_22 : decode cX12_kind 22 = .ok (.getfield 13, 3) := by decide +kernel
theorem dX12_kind_25 : decode cX12_kind 25 = .ok (.bipush 12, 2) := by decide +kernel
theorem dX12_kind_27 : decode cX12_kind 27 = .ok (.if_icmp .ne 6, 3) := by decide +kernel
theorem dX12_kind_33 : decode cX12_kind 33 = .ok (.aload_n 0, 1) := by decide +kernel
theorem dX12_kind_34 : decode cX12_kind 34 = .ok (.getfield 17, 3) := by decide +kernel
theorem dX12_kind_37 : decode cX12_kind 37 = .ok (.aload_n 0, 1) := by decide +kernel
theorem dX12_kind_38 : decode cX12_kind 38 = .ok (.getfield 13, 3) := by decide +kernel
theorem dX12_kind_41 : decode cX12_kind 41 = .ok (.iload_n 1, 1) := by decide +kernel
theorem dX12_kind_42 : decode cX12_kind 42 = .ok (.iastore, 1) := by decide +kernel
theorem dX12_kind_43 : decode cX12_kind 43 = .ok (.aload_n 0, 1) := by decide +kernel
theorem dX12_kind_44 : decode cX12_kind 44 = .ok (.dup, 1) := by decide +kernel
theorem dX12_kind_45 : decode cX12_kind 45 = .ok (.getfield 13, 3) := by decide +kernel
theorem dX12_kind_48 : decode cX12_kind 48 = .ok (.iconst 1, 1) := by decide +kernel
theorem dX12_kind_49 : decode cX12_kind 49 = .ok (.iadd, 1) := by decide +kernel
theorem dX12_kind_50 : decode cX12_kind 50 = .ok (.putfield 13, 3) := by decide +kernel
theorem dX12_kind_53 : decode cX12_kind 53 = .ok (.aload_n 0, 1) := by decide +kernel
theorem dX12_kind_54 : decode cX12_kind 54 = .ok (.getfield 13, 3) := by decide +kernel
theorem dX12_kind_57 : decode cX12_kind 57 = .ok (.iconst 1, 1) := by decide +kernel
theorem dX12_kind_58 : decode cX12_kind 58 = .ok (.isub, 1) := by decide +kernel
theorem dX12_kind_59 : decode cX12_kind 59 = .ok (.ireturn, 1) := by decide +kernel
theorem dX12_isUnder_0 : decode cX12_isUnder 0 = .ok (.iload_n 1, 1) := by decide +kernel
theorem dX12_isUnder_1 : decode cX12_isUnder 1 = .ok (.istore_n 3, 1) := by decide +kernel
theorem dX12_isUnder_2 : decode cX12_isUnder 2 = .ok (.iload_n 3, 1) := by decide +kernel
theorem dX12_isUnder_3 : decode cX12_isUnder 3 = .ok (.iload_n 2, 1) := by decide +kernel
theorem dX12_isUnder_4 : decode cX12_isUnder 4 = .ok (.if_icmp .eq 17, 3) := by decide +kernel
theorem dX12_isUnder_7 : decode cX12_isUnder 7 = .ok (.iload_n 3, 1) := by decide +kernel
theorem dX12_isUnder_8 : decode cX12_isUnder 8 = .ok (.ifCond .le 13, 3) := by decide +kernel
theorem dX12_isUnder_11 : decode cX12_isUnder 11 = .ok (.aload_n 0, 1) := by decide +kernel
theorem dX12_isUnder_12 : decode cX12_isUnder 12 = .ok (.getfield 17, 3) := by decide +kernel
theorem dX12_isUnder_15 : decode cX12_isUnder 15 = .ok (.iload_n 3, 1) := by decide +kernel
theorem dX12_isUnder_16 : decode cX12_isUnder 16 = .ok (.iaload, 1) := by decide +kernel
theorem dX12_isUnder_17 : decode cX12_isUnder 17 = .ok (.istore_n 3, 1) := by decide +kernel
theorem dX12_isUnder_18 : decode cX12_isUnder 18 = .ok (.goto (-16), 3) := by decide +kernel
theorem dX12_isUnder_21 : decode cX12_isUnder 21 = .ok (.iload_n 3, 1) := by decide +kernel
theorem dX12_isUnder_22 : decode cX12_isUnder 22 = .ok (.iload_n 2, 1) := by decide +kernel
theorem dX12_isUnder_23 : decode cX12_isUnder 23 = .ok (.if_icmp .ne 7, 3) := by decide +kernel
theorem dX12_isUnder_26 : decode cX12_isUnder 26 = .ok (.iconst 1, 1) := by decide +kernel
theorem dX12_isUnder_27 : decode cX12_isUnder 27 = .ok (.goto 4, 3) := by decide +kernel
theorem dX12_isUnder_30 : decode cX12_isUnder 30 = .ok (.iconst 0, 1) := by decide +kernel
theorem dX12_isUnder_31 : decode cX12_isUnder 31 = .ok (.ireturn, 1) := by decide +kernel
theorem dX12_under_0 : decode cX12_under 0 = .ok (.aload_n 0, 1) := by decide +kernel
theorem dX12_under_1 : decode cX12_under 1 = .ok (.iconst 0, 1) := by decide +kernel
theorem dX12_under_2 : decode cX12_under 2 = .ok (.putfield 273, 3) := by decide +kernel
theorem dX12_under_5 : decode cX12_under 5 = .ok (.iload_n 1, 1) := by decide +kernel
theorem dX12_under_6 : decode cX12_under 6 = .ok (.iconst 0, 1) := by decide +kernel
theorem dX12_under_7 : decode cX12_under 7 = .ok (.aload_n 0, 1) := by decide +kernel
theorem dX12_under_8 : decode cX12_under 8 = .ok (.getfield 13, 3) := by decide +kernel
theorem dX12_under_11 : decode cX12_under 11 = .ok (.iconst 1, 1) := by decide +kernel
theorem dX12_under_12 : decode cX12_under 12 = .ok (.isub, 1) := by decide +kernel
theorem dX12_under_13 : decode cX12_under 13 = .ok (.invokestatic 279, 3) := by decide +kernel
theorem dX12_under_16 : decode cX12_under 16 = .ok (.ifCond .eq 17, 3) := by decide +kernel
theorem dX12_under_19 : decode cX12_under 19 = .ok (.iload_n 2, 1) := by decide +kernel
theorem dX12_under_20 : decode cX12_under 20 = .ok (.iconst 0, 1) := by decide +kernel
theorem dX12_under_21 : decode cX12_under 21 = .ok (.aload_n 0, 1) := by decide +kernel
theorem dX12_under_22 : decode cX12_under 22 = .ok (.getfield 13, 3) := by decide +kernel
theorem dX12_under_25 : decode cX12_under 25 = .ok (.iconst 1, 1) := by decide +kernel
theorem dX12_under_26 : decode cX12_under 26 = .ok (.isub, 1) := by decide +kernel
theorem dX12_under_27 : decode cX12_under 27 = .ok (.invokestatic 279, 3) := by decide +kernel
theorem dX12_under_30 : decode cX12_under 30 = .ok (.ifCond .ne 5, 3) := by decide +kernel
theorem dX12_under_33 : decode cX12_under 33 = .ok (.iconst (-1), 1) := by decide +kernel
theorem dX12_under_34 : decode cX12_under 34 = .ok (.ireturn, 1) := by decide +kernel
theorem dX12_under_35 : decode cX12_under 35 = .ok (.aload_n 0, 1) := by decide +kernel
theorem dX12_under_36 : decode cX12_under 36 = .ok (.iload_n 1, 1) := by decide +kernel
theorem dX12_under_37 : decode cX12_under 37 = .ok (.iload_n 2, 1) := by decide +kernel
theorem dX12_under_38 : decode cX12_under 38 = .ok (.invokevirtual 283, 3) := by decide +kernel
theorem dX12_under_41 : decode cX12_under 41 = .ok (.ifCond .eq 7, 3) := by decide +kernel
theorem dX12_under_44 : decode cX12_under 44 = .ok (.iconst 1, 1) := by decide +kernel
theorem dX12_under_45 : decode cX12_under 45 = .ok (.goto 4, 3) := by decide +kernel
theorem dX12_under_48 : decode cX12_under 48 = .ok (.iconst 0, 1) := by decide +kernel
theorem dX12_under_49 : decode cX12_under 49 = .ok (.ireturn, 1) := by decide +kernel
theorem dX12_resource_0 : decode cX12_resource 0 = .ok (.aload_n 0, 1) := by decide +kernel
theorem dX12_resource_1 : decode cX12_resource 1 = .ok (.iconst 0, 1) := by decide +kernel
theorem dX12_resource_2 : decode cX12_resource 2 = .ok (.putfield 273, 3) := by decide +kernel
theorem dX12_resource_5 : decode cX12_resource 5 = .ok (.iload_n 1, 1) := by decide +kernel
theorem dX12_resource_6 : decode cX12_resource 6 = .ok (.iconst 0, 1) := by decide +kernel
theorem dX12_resource_7 : decode cX12_resource 7 = .ok (.bipush 7, 2) := by decide +kernel
theorem dX12_resource_9 : decode cX12_resource 9 = .ok (.invokestatic 279, 3) := by decide +kernel
theorem dX12_resource_12 : decode cX12_resource 12 = .ok (.ifCond .eq 41, 3) := by decide +kernel
theorem dX12_resource_15 : decode cX12_resource 15 = .ok (.iload_n 2, 1) := by decide +kernel
theorem dX12_resource_16 : decode cX12_resource 16 = .ok (.iconst 0, 1) := by decide +kernel
theorem dX12_resource_17 : decode cX12_resource 17 = .ok (.iconst 1, 1) := by decide +kernel
theorem dX12_resource_18 : decode cX12_resource 18 = .ok (.invokestatic 279, 3) := by decide +kernel
theorem dX12_resource_21 : decode cX12_resource 21 = .ok (.ifCond .eq 32, 3) := by decide +kernel
theorem dX12_resource_24 : decode cX12_resource 24 = .ok (.iload_n 3, 1) := by decide +kernel
theorem dX12_resource_25 : decode cX12_resource 25 = .ok (.iconst (-1), 1) := by decide +kernel
theorem dX12_resource_26 : decode cX12_resource 26 = .ok (.aload_n 0, 1) := by decide +kernel
theorem dX12_resource_27 : decode cX12_resource 27 = .ok (.getfield 13, 3) := by decide +kernel
theorem dX12_resource_30 : decode cX12_resource 30 = .ok (.iconst 1, 1) := by decide +kernel
theorem dX12_resource_31 : decode cX12_resource 31 = .ok (.isub, 1) := by decide +kernel
theorem dX12_resource_32 : decode cX12_resource 32 = .ok (.invokestatic 279, 3) := by decide +kernel
theorem dX12_resource_35 : decode cX12_resource 35 = .ok (.ifCond .eq 18, 3) := by decide +kernel
theorem dX12_resource_38 : decode cX12_resource 38 = .ok (.iload 4, 2) := by decide +kernel
theorem dX12_resource_40 : decode cX12_resource 40 = .ok (.iconst (-1), 1) := by decide +kernel
theorem dX12_resource_41 : decode cX12_resource 41 = .ok (.aload_n 0, 1) := by decide +kernel
theorem dX12_resource_42 : decode cX12_resource 42 = .ok (.getfield 13, 3) := by decide +kernel
theorem dX12_resource_45 : decode cX12_resource 45 = .ok (.iconst 1, 1) := by decide +kernel
theorem dX12_resource_46 : decode cX12_resource 46 = .ok (.isub, 1) := by decide +kernel
theorem dX12_resource_47 : decode cX12_resource 47 = .ok (.invokestatic 279, 3) := by decide +kernel
theorem dX12_resource_50 : decode cX12_resource 50 = .ok (.ifCond .ne 5, 3) := by decide +kernel
theorem dX12_resource_53 : decode cX12_resource 53 = .ok (.iconst (-1), 1) := by decide +kernel
theorem dX12_resource_54 : decode cX12_resource 54 = .ok (.ireturn, 1) := by decide +kernel
theorem dX12_resource_55 : decode cX12_resource 55 = .ok (.aload_n 0, 1) := by decide +kernel
theorem dX12_resource_56 : decode cX12_resource 56 = .ok (.getfield 20, 3) := by decide +kernel
theorem dX12_resource_59 : decode cX12_resource 59 = .ok (.iload_n 1, 1) := by decide +kernel
theorem dX12_resource_60 : decode cX12_resource 60 = .ok (.iload_n 2, 1) := by decide +kernel
theorem dX12_resource_61 : decode cX12_resource 61 = .ok (.iconst 1, 1) := by decide +kernel
theorem dX12_resource_62 : decode cX12_resource 62 = .ok (.if_icmp .ne 7, 3) := by decide +kernel
theorem dX12_resource_65 : decode cX12_resource 65 = .ok (.iconst 1, 1) := by decide +kernel
theorem dX12_resource_66 : decode cX12_resource 66 = .ok (.goto 4, 3) := by decide +kernel
theorem dX12_resource_69 : decode cX12_resource 69 = .ok (.iconst 0, 1) := by decide +kernel
theorem dX12_resource_70 : decode cX12_resource 70 = .ok (.bastore, 1) := by decide +kernel
theorem dX12_resource_71 : decode cX12_resource 71 = .ok (.aload_n 0, 1) := by decide +kernel
theorem dX12_resource_72 : decode cX12_resource 72 = .ok (.getfield 24, 3) := by decide +kernel
theorem dX12_resource_75 : decode cX12_resource 75 = .ok (.iload_n 1, 1) := by decide +kernel
theorem dX12_resource_76 : decode cX12_resource 76 = .ok (.iload_n 3, 1) := by decide +kernel
theorem dX12_resource_77 : decode cX12_resource 77 = .ok (.iconst 1, 1) := by decide +kernel
theorem dX12_resource_78 : decode cX12_resource 78 = .ok (.iadd, 1) := by decide +kernel
theorem dX12_resource_79 : decode cX12_resource 79 = .ok (.iastore, 1) := by decide +kernel
theorem dX12_resource_80 : decode cX12_resource 80 = .ok (.aload_n 0, 1) := by decide +kernel
theorem dX12_resource_81 : decode cX12_resource 81 = .ok (.getfield 27, 3) := by decide +kernel
theorem dX12_resource_84 : decode cX12_resource 84 = .ok (.iload_n 1, 1) := by decide +kernel
theorem dX12_resource_85 : decode cX12_resource 85 = .ok (.iload 4, 2) := by decide +kernel
theorem dX12_resource_87 : decode cX12_resource 87 = .ok (.iconst 1, 1) := by decide +kernel
theorem dX12_resource_88 : decode cX12_resource 88 = .ok (.iadd, 1) := by decide +kernel
theorem dX12_resource_89 : decode cX12_resource 89 = .ok (.iastore, 1) := by decide +kernel
theorem dX12_resource_90 : decode cX12_resource 90 = .ok (.iconst 1, 1) := by decide +kernel
theorem dX12_resource_91 : decode cX12_resource 91 = .ok (.ireturn, 1) := by decide +kernel
theorem dX12_asserts_0 : decode cX12_asserts 0 = .ok (.aload_n 0, 1) := by decide +kernel
theorem dX12_asserts_1 : decode cX12_asserts 1 = .ok (.iconst 0, 1) := by decide +kernel
theorem dX12_asserts_2 : decode cX12_asserts 2 = .ok (.putfield 273, 3) := by decide +kernel
theorem dX12_asserts_5 : decode cX12_asserts 5 = .ok (.aload_n 0, 1) := by decide +kernel
theorem dX12_asserts_6 : decode cX12_asserts 6 = .ok (.getfield 287, 3) := by decide +kernel
theorem dX12_asserts_9 : decode cX12_asserts 9 = .ok (.ifCond .eq 7, 3) := by decide +kernel
theorem dX12_asserts_16 : decode cX12_asserts 16 = .ok (.iconst 0, 1) := by decide +kernel
theorem dX12_asserts_17 : decode cX12_asserts 17 = .ok (.istore_n 2, 1) := by decide +kernel
theorem dX12_asserts_18 : decode cX12_asserts 18 = .ok (.aload_n 0, 1) := by decide +kernel
theorem dX12_asserts_19 : decode cX12_asserts 19 = .ok (.iload_n 1, 1) := by decide +kernel
theorem dX12_asserts_20 : decode cX12_asserts 20 = .ok (.putfield 287, 3) := by decide +kernel
theorem dX12_asserts_23 : decode cX12_asserts 23 = .ok (.iload_n 2, 1) := by decide +kernel
theorem dX12_asserts_24 : decode cX12_asserts 24 = .ok (.ireturn, 1) := by decide +kernel
theorem dX12_at_0 : decode cX12_at 0 = .ok (.iload_n 1, 1) := by decide +kernel
theorem dX12_at_1 : decode cX12_at 1 = .ok (.aload_n 0, 1) := by decide +kernel
theorem dX12_at_2 : decode cX12_at 2 = .ok (.getfield 276, 3) := by decide +kernel
theorem dX12_at_5 : decode cX12_at 5 = .ok (.if_icmp .ge 12, 3) := by decide +kernel
theorem dX12_at_17 : decode cX12_at 17 = .ok (.iconst 0, 1) := by decide +kernel
theorem dX12_at_18 : decode cX12_at 18 = .ok (.ireturn, 1) := by decide +kernel
theorem dX12_next_0 : decode cX12_next 0 = .ok (.aload_n 0, 1) := by decide +kernel
theorem dX12_next_1 : decode cX12_next 1 = .ok (.getfield 291, 3) := by decide +kernel
theorem dX12_next_4 : decode cX12_next 4 = .ok (.ifCond .eq 4, 3) := by decide +kernel
theorem dX12_next_8 : decode cX12_next 8 = .ok (.aload_n 0, 1) := by decide +kernel
theorem dX12_next_9 : decode cX12_next 9 = .ok (.dup, 1) := by decide +kernel
theorem dX12_next_10 : decode cX12_next 10 = .ok (.getfield 294, 3) := by decide +kernel
theorem dX12_next_13 : decode cX12_next 13 = .ok (.iconst 1, 1) := by decide +kernel
theorem dX12_next_14 : decode cX12_next 14 = .ok (.iadd, 1) := by decide +kernel
theorem dX12_next_15 : decode cX12_next 15 = .ok (.putfield 294, 3) := by decide +kernel
theorem dX12_next_18 : decode cX12_next 18 = .ok (.aload_n 0, 1) := by decide +kernel
theorem dX12_next_19 : decode cX12_next 19 = .ok (.getfield 297, 3) := by decide +kernel
theorem dX12_next_22 : decode cX12_next 22 = .ok (.aload_n 0, 1) := by decide +kernel
theorem dX12_next_23 : decode cX12_next 23 = .ok (.getfield 276, 3) := by decide +kernel
theorem dX12_next_26 : decode cX12_next 26 = .ok (.if_icmp .ge 42, 3) := by decide +kernel
theorem dX12_next_68 : decode cX12_next 68 = .ok (.aload_n 0, 1) := by decide +kernel
theorem dX12_next_69 : decode cX12_next 69 = .ok (.aload_n 0, 1) := by decide +kernel
theorem dX12_next_70 : decode cX12_next 70 = .ok (.getfield 297, 3) := by decide +kernel
theorem dX12_next_73 : decode cX12_next 73 = .ok (.putfield 304, 3) := by decide +kernel
theorem dX12_next_76 : decode cX12_next 76 = .ok (.aload_n 0, 1) := by decide +kernel
theorem dX12_next_77 : decode cX12_next 77 = .ok (.aload_n 0, 1) := by decide +kernel
theorem dX12_next_78 : decode cX12_next 78 = .ok (.getfield 304, 3) := by decide +kernel
theorem dX12_next_81 : decode cX12_next 81 = .ok (.invokevirtual 300, 3) := by decide +kernel
theorem dX12_next_84 : decode cX12_next 84 = .ok (.istore_n 1, 1) := by decide +kernel
theorem dX12_next_85 : decode cX12_next 85 = .ok (.aload_n 0, 1) := by decide +kernel
theorem dX12_next_86 : decode cX12_next 86 = .ok (.getfield 304, 3) := by decide +kernel
theorem dX12_next_89 : decode cX12_next 89 = .ok (.aload_n 0, 1) := by decide +kernel
theorem dX12_next_90 : decode cX12_next 90 = .ok (.getfield 276, 3) := by decide +kernel
theorem dX12_next_93 : decode cX12_next 93 = .ok (.if_icmp .ne 11, 3) := by decide +kernel
theorem dX12_next_96 : decode cX12_next 96 = .ok (.aload_n 0, 1) := by decide +kernel
theorem dX12_next_97 : decode cX12_next 97 = .ok (.iconst 0, 1) := by decide +kernel
theorem dX12_next_98 : decode cX12_next 98 = .ok (.putfield 307, 3) := by decide +kernel
theorem dX12_next_101 : decode cX12_next 101 = .ok (.goto 132, 3) := by decide +kernel
theorem dX12_next_233 : decode cX12_next 233 = .ok (.return_, 1) := by decide +kernel
theorem dX12_can_0 : decode cX12_can 0 = .ok (.aload_n 0, 1) := by decide +kernel
theorem dX12_can_1 : decode cX12_can 1 = .ok (.getfield 291, 3) := by decide +kernel
theorem dX12_can_4 : decode cX12_can 4 = .ok (.ifCond .ne 38, 3) := by decide +kernel
theorem dX12_can_7 : decode cX12_can 7 = .ok (.iload_n 1, 1) := by decide +kernel
theorem dX12_can_8 : decode cX12_can 8 = .ok (.ifCond .eq 12, 3) := by decide +kernel
theorem dX12_can_11 : decode cX12_can 11 = .ok (.aload_n 0, 1) := by decide +kernel
theorem dX12_can_12 : decode cX12_can 12 = .ok (.getfield 307, 3) := by decide +kernel
theorem dX12_can_15 : decode cX12_can 15 = .ok (.bipush 6, 2) := by decide +kernel
theorem dX12_can_17 : decode cX12_can 17 = .ok (.if_icmp .ne 25, 3) := by decide +kernel
theorem dX12_can_42 : decode cX12_can 42 = .ok (.aload_n 0, 1) := by decide +kernel
theorem dX12_can_43 : decode cX12_can 43 = .ok (.getfield 291, 3) := by decide +kernel
theorem dX12_can_46 : decode cX12_can 46 = .ok (.ifCond .ne 7, 3) := by decide +kernel
theorem dX12_can_49 : decode cX12_can 49 = .ok (.iconst 1, 1) := by decide +kernel
theorem dX12_can_50 : decode cX12_can 50 = .ok (.goto 4, 3) := by decide +kernel
theorem dX12_can_54 : decode cX12_can 54 = .ok (.ireturn, 1) := by decide +kernel
theorem dX12_see_0 : decode cX12_see 0 = .ok (.aload_n 0, 1) := by decide +kernel
theorem dX12_see_1 : decode cX12_see 1 = .ok (.getfield 126, 3) := by decide +kernel
theorem dX12_see_4 : decode cX12_see 4 = .ok (.aload_n 0, 1) := by decide +kernel
theorem dX12_see_5 : decode cX12_see 5 = .ok (.getfield 361, 3) := by decide +kernel
theorem dX12_see_8 : decode cX12_see 8 = .ok (.lload_n 1, 1) := by decide +kernel
theorem dX12_see_9 : decode cX12_see 9 = .ok (.lastore, 1) := by decide +kernel
theorem dX12_see_10 : decode cX12_see 10 = .ok (.aload_n 0, 1) := by decide +kernel
theorem dX12_see_11 : decode cX12_see 11 = .ok (.getfield 129, 3) := by decide +kernel
theorem dX12_see_14 : decode cX12_see 14 = .ok (.aload_n 0, 1) := by decide +kernel
theorem dX12_see_15 : decode cX12_see 15 = .ok (.getfield 361, 3) := by decide +kernel
theorem dX12_see_18 : decode cX12_see 18 = .ok (.aload_n 0, 1) := by decide +kernel
theorem dX12_see_19 : decode cX12_see 19 = .ok (.getfield 364, 3) := by decide +kernel
theorem dX12_see_22 : decode cX12_see 22 = .ok (.iastore, 1) := by decide +kernel
theorem dX12_see_23 : decode cX12_see 23 = .ok (.aload_n 0, 1) := by decide +kernel
theorem dX12_see_24 : decode cX12_see 24 = .ok (.getfield 132, 3) := by decide +kernel
theorem dX12_see_27 : decode cX12_see 27 = .ok (.aload_n 0, 1) := by decide +kernel
theorem dX12_see_28 : decode cX12_see 28 = .ok (.getfield 361, 3) := by decide +kernel
theorem dX12_see_31 : decode cX12_see 31 = .ok (.iload_n 3, 1) := by decide +kernel
theorem dX12_see_32 : decode cX12_see 32 = .ok (.bastore, 1) := by decide +kernel
theorem dX12_see_33 : decode cX12_see 33 = .ok (.aload_n 0, 1) := by decide +kernel
theorem dX12_see_34 : decode cX12_see 34 = .ok (.dup, 1) := by decide +kernel
theorem dX12_see_35 : decode cX12_see 35 = .ok (.getfield 361, 3) := by decide +kernel
theorem dX12_see_38 : decode cX12_see 38 = .ok (.iconst 1, 1) := by decide +kernel
theorem dX12_see_39 : decode cX12_see 39 = .ok (.iadd, 1) := by decide +kernel
theorem dX12_see_40 : decode cX12_see 40 = .ok (.putfield 361, 3) := by decide +kernel
theorem dX12_see_43 : decode cX12_see 43 = .ok (.aload_n 0, 1) := by decide +kernel
theorem dX12_see_44 : decode cX12_see 44 = .ok (.dup, 1) := by decide +kernel
theorem dX12_see_45 : decode cX12_see 45 = .ok (.getfield 364, 3) := by decide +kernel
theorem dX12_see_48 : decode cX12_see 48 = .ok (.iconst 1, 1) := by decide +kernel
theorem dX12_see_49 : decode cX12_see 49 = .ok (.iadd, 1) := by decide +kernel
theorem dX12_see_50 : decode cX12_see 50 = .ok (.putfield 364, 3) := by decide +kernel
theorem dX12_see_53 : decode cX12_see 53 = .ok (.aload_n 0, 1) := by decide +kernel
theorem dX12_see_54 : decode cX12_see 54 = .ok (.getfield 364, 3) := by decide +kernel
theorem dX12_see_57 : decode cX12_see 57 = .ok (.iconst 1, 1) := by decide +kernel
theorem dX12_see_58 : decode cX12_see 58 = .ok (.isub, 1) := by decide +kernel
theorem dX12_see_59 : decode cX12_see 59 = .ok (.ireturn, 1) := by decide +kernel
theorem dX12_push_0 : decode cX12_push 0 = .ok (.aload_n 0, 1) := by decide +kernel
theorem dX12_push_1 : decode cX12_push 1 = .ok (.dup, 1) := by decide +kernel
theorem dX12_push_2 : decode cX12_push 2 = .ok (.getfield 387, 3) := by decide +kernel
theorem dX12_push_5 : decode cX12_push 5 = .ok (.iconst 1, 1) := by decide +kernel
theorem dX12_push_6 : decode cX12_push 6 = .ok (.iadd, 1) := by decide +kernel
theorem dX12_push_7 : decode cX12_push 7 = .ok (.putfield 387, 3) := by decide +kernel
theorem dX12_push_10 : decode cX12_push 10 = .ok (.aload_n 0, 1) := by decide +kernel
theorem dX12_push_11 : decode cX12_push 11 = .ok (.getfield 174, 3) := by decide +kernel
theorem dX12_push_14 : decode cX12_push 14 = .ok (.aload_n 0, 1) := by decide +kernel
theorem dX12_push_15 : decode cX12_push 15 = .ok (.getfield 387, 3) := by decide +kernel
theorem dX12_push_18 : decode cX12_push 18 = .ok (.iload_n 1, 1) := by decide +kernel
theorem dX12_push_19 : decode cX12_push 19 = .ok (.iastore, 1) := by decide +kernel
theorem dX12_push_20 : decode cX12_push 20 = .ok (.aload_n 0, 1) := by decide +kernel
theorem dX12_push_21 : decode cX12_push 21 = .ok (.getfield 177, 3) := by decide +kernel
theorem dX12_push_24 : decode cX12_push 24 = .ok (.aload_n 0, 1) := by decide +kernel
theorem dX12_push_25 : decode cX12_push 25 = .ok (.getfield 387, 3) := by decide +kernel
theorem dX12_push_28 : decode cX12_push 28 = .ok (.iconst 0, 1) := by decide +kernel
theorem dX12_push_29 : decode cX12_push 29 = .ok (.iastore, 1) := by decide +kernel
theorem dX12_push_30 : decode cX12_push 30 = .ok (.return_, 1) := by decide +kernel
theorem dX12_over_0 : decode cX12_over 0 = .ok (.aload_n 0, 1) := by decide +kernel
theorem dX12_over_1 : decode cX12_over 1 = .ok (.iload_n 1, 1) := by decide +kernel
theorem dX12_over_2 : decode cX12_over 2 = .ok (.putfield 396, 3) := by decide +kernel
theorem dX12_over_5 : decode cX12_over 5 = .ok (.aload_n 0, 1) := by decide +kernel
theorem dX12_over_6 : decode cX12_over 6 = .ok (.dup, 1) := by decide +kernel
theorem dX12_over_7 : decode cX12_over 7 = .ok (.getfield 387, 3) := by decide +kernel
theorem dX12_over_10 : decode cX12_over 10 = .ok (.iconst 1, 1) := by decide +kernel
theorem dX12_over_11 : decode cX12_over 11 = .ok (.isub, 1) := by decide +kernel
theorem dX12_over_12 : decode cX12_over 12 = .ok (.putfield 387, 3) := by decide +kernel
theorem dX12_over_15 : decode cX12_over 15 = .ok (.return_, 1) := by decide +kernel
theorem dX12_parse_0 : decode cX12_parse 0 = .ok (.aload_n 0, 1) := by decide +kernel
theorem dX12_parse_1 : decode cX12_parse 1 = .ok (.iconst (-1), 1) := by decide +kernel
theorem dX12_parse_2 : decode cX12_parse 2 = .ok (.putfield 387, 3) := by decide +kernel
theorem dX12_parse_5 : decode cX12_parse 5 = .ok (.aload_n 0, 1) := by decide +kernel
theorem dX12_parse_6 : decode cX12_parse 6 = .ok (.iconst 1, 1) := by decide +kernel
theorem dX12_parse_7 : decode cX12_parse 7 = .ok (.invokevirtual 390, 3) := by decide +kernel
theorem dX12_parse_10 : decode cX12_parse 10 = .ok (.aload_n 0, 1) := by decide +kernel
theorem dX12_parse_11 : decode cX12_parse 11 = .ok (.getfield 387, 3) := by decide +kernel
theorem dX12_parse_14 : decode cX12_parse 14 = .ok (.ifCond .lt 270, 3) := by decide +kernel
theorem dX12_parse_17 : decode cX12_parse 17 = .ok (.aload_n 0, 1) := by decide +kernel
theorem dX12_parse_18 : decode cX12_parse 18 = .ok (.getfield 291, 3) := by decide +kernel
theorem dX12_parse_21 : decode cX12_parse 21 = .ok (.ifCond .ne 263, 3) := by decide +kernel
theorem dX12_parse_24 : decode cX12_parse 24 = .ok (.aload_n 0, 1) := by decide +kernel
theorem dX12_parse_25 : decode cX12_parse 25 = .ok (.getfield 174, 3) := by decide +kernel
theorem dX12_parse_28 : decode cX12_parse 28 = .ok (.aload_n 0, 1) := by decide +kernel
theorem dX12_parse_29 : decode cX12_parse 29 = .ok (.getfield 387, 3) := by decide +kernel
theorem dX12_parse_32 : decode cX12_parse 32 = .ok (.iaload, 1) := by decide +kernel
theorem dX12_parse_33 : decode cX12_parse 33 = .ok (.tableswitch 240 1 15 #[75, 86, 97, 108, 119, 130, 141, 152, 163, 174, 185, 196, 207, 218, 229], 75) := by decide +kernel
theorem dX12_parse_108 : decode cX12_parse 108 = .ok (.aload_n 0, 1) := by decide +kernel
theorem dX12_parse_109 : decode cX12_parse 109 = .ok (.aload_n 0, 1) := by decide +kernel
theorem dX12_parse_110 : decode cX12_parse 110 = .ok (.getfield 387, 3) := by decide +kernel
theorem dX12_parse_113 : decode cX12_parse 113 = .ok (.invokevirtual 399, 3) := by decide +kernel
theorem dX12_parse_116 : decode cX12_parse 116 = .ok (.goto (-106), 3) := by decide +kernel
theorem dX12_parse_284 : decode cX12_parse 284 = .ok (.return_, 1) := by decide +kernel
theorem dX12_list_0 : decode cX12_list 0 = .ok (.aload_n 0, 1) := by decide +kernel
theorem dX12_list_1 : decode cX12_list 1 = .ok (.getfield 177, 3) := by decide +kernel
theorem dX12_list_4 : decode cX12_list 4 = .ok (.iload_n 1, 1) := by decide +kernel
theorem dX12_list_5 : decode cX12_list 5 = .ok (.iaload, 1) := by decide +kernel
theorem dX12_list_6 : decode cX12_list 6 = .ok (.ifCond .ne 13, 3) := by decide +kernel
theorem dX12_list_9 : decode cX12_list 9 = .ok (.aload_n 0, 1) := by decide +kernel
theorem dX12_list_10 : decode cX12_list 10 = .ok (.getfield 180, 3) := by decide +kernel
theorem dX12_list_13 : decode cX12_list 13 = .ok (.iload_n 1, 1) := by decide +kernel
theorem dX12_list_14 : decode cX12_list 14 = .ok (.iconst 1, 1) := by decide +kernel
theorem dX12_list_15 : decode cX12_list 15 = .ok (.iastore, 1) := by decide +kernel
theorem dX12_list_16 : decode cX12_list 16 = .ok (.goto 21, 3) := by decide +kernel
theorem dX12_list_37 : decode cX12_list 37 = .ok (.aload_n 0, 1) := by decide +kernel
theorem dX12_list_38 : decode cX12_list 38 = .ok (.getfield 307, 3) := by decide +kernel
theorem dX12_list_41 : decode cX12_list 41 = .ok (.bipush 125, 2) := by decide +kernel
theorem dX12_list_43 : decode cX12_list 43 = .ok (.if_icmp .eq 30, 3) := by decide +kernel
theorem dX12_list_46 : decode cX12_list 46 = .ok (.aload_n 0, 1) := by decide +kernel
theorem dX12_list_47 : decode cX12_list 47 = .ok (.getfield 307, 3) := by decide +kernel
theorem dX12_list_50 : decode cX12_list 50 = .ok (.sipush 429, 3) := by decide +kernel
theorem dX12_list_53 : decode cX12_list 53 = .ok (.if_icmp .eq 20, 3) := by decide +kernel
theorem dX12_list_56 : decode cX12_list 56 = .ok (.aload_n 0, 1) := by decide +kernel
theorem dX12_list_57 : decode cX12_list 57 = .ok (.getfield 307, 3) := by decide +kernel
theorem dX12_list_60 : decode cX12_list 60 = .ok (.sipush 430, 3) := by decide +kernel
theorem dX12_list_63 : decode cX12_list 63 = .ok (.if_icmp .eq 10, 3) := by decide +kernel
theorem dX12_list_66 : decode cX12_list 66 = .ok (.aload_n 0, 1) := by decide +kernel
theorem dX12_list_67 : decode cX12_list 67 = .ok (.getfield 307, 3) := by decide +kernel
theorem dX12_list_70 : decode cX12_list 70 = .ok (.ifCond .ne 23, 3) := by decide +kernel
theorem dX12_list_73 : decode cX12_list 73 = .ok (.aload_n 0, 1) := by decide +kernel
theorem dX12_list_74 : decode cX12_list 74 = .ok (.aload_n 0, 1) := by decide +kernel
theorem dX12_list_75 : decode cX12_list 75 = .ok (.getfield 180, 3) := by decide +kernel
theorem dX12_list_78 : decode cX12_list 78 = .ok (.iload_n 1, 1) := by decide +kernel
theorem dX12_list_79 : decode cX12_list 79 = .ok (.iaload, 1) := by decide +kernel
theorem dX12_list_80 : decode cX12_list 80 = .ok (.iconst 1, 1) := by decide +kernel
theorem dX12_list_81 : decode cX12_list 81 = .ok (.if_icmp .ne 7, 3) := by decide +kernel
theorem dX12_list_84 : decode cX12_list 84 = .ok (.iconst 1, 1) := by decide +kernel
theorem dX12_list_85 : decode cX12_list 85 = .ok (.goto 4, 3) := by decide +kernel
theorem dX12_list_89 : decode cX12_list 89 = .ok (.invokevirtual 490, 3) := by decide +kernel
theorem dX12_list_92 : decode cX12_list 92 = .ok (.return_, 1) := by decide +kernel
theorem dX12_read_0 : decode cX12_read 0 = .ok (.aload_n 0, 1) := by decide +kernel
theorem dX12_read_1 : decode cX12_read 1 = .ok (.iconst 0, 1) := by decide +kernel
theorem dX12_read_2 : decode cX12_read 2 = .ok (.putfield 273, 3) := by decide +kernel
theorem dX12_read_5 : decode cX12_read 5 = .ok (.aload_n 0, 1) := by decide +kernel
theorem dX12_read_6 : decode cX12_read 6 = .ok (.iconst 0, 1) := by decide +kernel
theorem dX12_read_7 : decode cX12_read 7 = .ok (.putfield 361, 3) := by decide +kernel
theorem dX12_read_10 : decode cX12_read 10 = .ok (.aload_n 0, 1) := by decide +kernel
theorem dX12_read_11 : decode cX12_read 11 = .ok (.iconst 0, 1) := by decide +kernel
theorem dX12_read_12 : decode cX12_read 12 = .ok (.putfield 364, 3) := by decide +kernel
theorem dX12_read_15 : decode cX12_read 15 = .ok (.aload_n 0, 1) := by decide +kernel
theorem dX12_read_16 : decode cX12_read 16 = .ok (.iconst 0, 1) := by decide +kernel
theorem dX12_read_17 : decode cX12_read 17 = .ok (.putfield 367, 3) := by decide +kernel
theorem dX12_read_20 : decode cX12_read 20 = .ok (.aload_n 0, 1) := by decide +kernel
theorem dX12_read_21 : decode cX12_read 21 = .ok (.iconst 0, 1) := by decide +kernel
theorem dX12_read_22 : decode cX12_read 22 = .ok (.putfield 348, 3) := by decide +kernel
theorem dX12_read_25 : decode cX12_read 25 = .ok (.aload_n 0, 1) := by decide +kernel
theorem dX12_read_26 : decode cX12_read 26 = .ok (.iconst 0, 1) := by decide +kernel
theorem dX12_read_27 : decode cX12_read 27 = .ok (.putfield 494, 3) := by decide +kernel
theorem dX12_read_30 : decode cX12_read 30 = .ok (.aload_n 0, 1) := by decide +kernel
theorem dX12_read_31 : decode cX12_read 31 = .ok (.iconst 0, 1) := by decide +kernel
theorem dX12_read_32 : decode cX12_read 32 = .ok (.putfield 500, 3) := by decide +kernel
theorem dX12_read_35 : decode cX12_read 35 = .ok (.aload_n 0, 1) := by decide +kernel
theorem dX12_read_36 : decode cX12_read 36 = .ok (.iconst 0, 1) := by decide +kernel
theorem dX12_read_37 : decode cX12_read 37 = .ok (.putfield 527, 3) := by decide +kernel
theorem dX12_read_40 : decode cX12_read 40 = .ok (.aload_n 0, 1) := by decide +kernel
theorem dX12_read_41 : decode cX12_read 41 = .ok (.iconst 0, 1) := by decide +kernel
theorem dX12_read_42 : decode cX12_read 42 = .ok (.putfield 358, 3) := by decide +kernel
theorem dX12_read_45 : decode cX12_read 45 = .ok (.aload_n 0, 1) := by decide +kernel
theorem dX12_read_46 : decode cX12_read 46 = .ok (.iconst 0, 1) := by decide +kernel
theorem dX12_read_47 : decode cX12_read 47 = .ok (.putfield 478, 3) := by decide +kernel
theorem dX12_read_50 : decode cX12_read 50 = .ok (.aload_n 0, 1) := by decide +kernel
theorem dX12_read_51 : decode cX12_read 51 = .ok (.iconst 0, 1) := by decide +kernel
theorem dX12_read_52 : decode cX12_read 52 = .ok (.putfield 549, 3) := by decide +kernel
theorem dX12_read_55 : decode cX12_read 55 = .ok (.aload_n 0, 1) := by decide +kernel
theorem dX12_read_56 : decode cX12_read 56 = .ok (.iconst 0, 1) := by decide +kernel
theorem dX12_read_57 : decode cX12_read 57 = .ok (.putfield 561, 3) := by decide +kernel
theorem dX12_read_60 : decode cX12_read 60 = .ok (.aload_n 0, 1) := by decide +kernel
theorem dX12_read_61 : decode cX12_read 61 = .ok (.iconst 0, 1) := by decide +kernel
theorem dX12_read_62 : decode cX12_read 62 = .ok (.putfield 377, 3) := by decide +kernel
theorem dX12_read_65 : decode cX12_read 65 = .ok (.aload_n 0, 1) := by decide +kernel
theorem dX12_read_66 : decode cX12_read 66 = .ok (.iconst 0, 1) := by decide +kernel
theorem dX12_read_67 : decode cX12_read 67 = .ok (.putfield 384, 3) := by decide +kernel
theorem dX12_read_70 : decode cX12_read 70 = .ok (.aload_n 0, 1) := by decide +kernel
theorem dX12_read_71 : decode cX12_read 71 = .ok (.iconst 0, 1) := by decide +kernel
theorem dX12_read_72 : decode cX12_read 72 = .ok (.putfield 370, 3) := by decide +kernel
theorem dX12_read_75 : decode cX12_read 75 = .ok (.aload_n 0, 1) := by decide +kernel
theorem dX12_read_76 : decode cX12_read 76 = .ok (.iconst 0, 1) := by decide +kernel
theorem dX12_read_77 : decode cX12_read 77 = .ok (.putfield 297, 3) := by decide +kernel
theorem dX12_read_80 : decode cX12_read 80 = .ok (.aload_n 0, 1) := by decide +kernel
theorem dX12_read_81 : decode cX12_read 81 = .ok (.iconst 0, 1) := by decide +kernel
theorem dX12_read_82 : decode cX12_read 82 = .ok (.putfield 291, 3) := by decide +kernel
theorem dX12_read_85 : decode cX12_read 85 = .ok (.aload_n 0, 1) := by decide +kernel
theorem dX12_read_86 : decode cX12_read 86 = .ok (.iconst (-1), 1) := by decide +kernel
end
section
theorem dX12_read_87 : decode cX12_read 87 = .ok (.putfield 334, 3) := by decide +kernel
theorem dX12_read_90 : decode cX12_read 90 = .ok (.aload_n 0, 1) := by decide +kernel
theorem dX12_read_91 : decode cX12_read 91 = .ok (.iconst 0, 1) := by decide +kernel
theorem dX12_read_92 : decode cX12_read 92 = .ok (.putfield 294, 3) := by decide +kernel
theorem dX12_read_95 : decode cX12_read 95 = .ok (.aload_n 0, 1) := by decide +kernel
theorem dX12_read_96 : decode cX12_read 96 = .ok (.ldc2_w 564, 3) := by decide +kernel
theorem dX12_read_99 : decode cX12_read 99 = .ok (.iconst 0, 1) := by decide +kernel
theorem dX12_read_100 : decode cX12_read 100 = .ok (.invokevirtual 506, 3) := by decide +kernel
theorem dX12_read_103 : decode cX12_read 103 = .ok (.pop, 1) := by decide +kernel
theorem dX12_read_104 : decode cX12_read 104 = .ok (.aload_n 0, 1) := by decide +kernel
theorem dX12_read_105 : decode cX12_read 105 = .ok (.ldc2_w 566, 3) := by decide +kernel
theorem dX12_read_108 : decode cX12_read 108 = .ok (.iconst 0, 1) := by decide +kernel
theorem dX12_read_109 : decode cX12_read 109 = .ok (.invokevirtual 506, 3) := by decide +kernel
theorem dX12_read_112 : decode cX12_read 112 = .ok (.pop, 1) := by decide +kernel
theorem dX12_read_113 : decode cX12_read 113 = .ok (.aload_n 0, 1) := by decide +kernel
theorem dX12_read_114 : decode cX12_read 114 = .ok (.invokevirtual 345, 3) := by decide +kernel
theorem dX12_read_117 : decode cX12_read 117 = .ok (.aload_n 0, 1) := by decide +kernel
theorem dX12_read_118 : decode cX12_read 118 = .ok (.invokevirtual 568, 3) := by decide +kernel
theorem dX12_read_121 : decode cX12_read 121 = .ok (.aload_n 0, 1) := by decide +kernel
theorem dX12_read_122 : decode cX12_read 122 = .ok (.aload_n 0, 1) := by decide +kernel
theorem dX12_read_123 : decode cX12_read 123 = .ok (.getfield 307, 3) := by decide +kernel
theorem dX12_read_126 : decode cX12_read 126 = .ok (.ifCond .ne 7, 3) := by decide +kernel
theorem dX12_read_129 : decode cX12_read 129 = .ok (.iconst 1, 1) := by decide +kernel
theorem dX12_read_130 : decode cX12_read 130 = .ok (.goto 4, 3) := by decide +kernel
theorem dX12_read_134 : decode cX12_read 134 = .ok (.invokevirtual 341, 3) := by decide +kernel
theorem dX12_read_137 : decode cX12_read 137 = .ok (.pop, 1) := by decide +kernel
theorem dX12_read_138 : decode cX12_read 138 = .ok (.aload_n 0, 1) := by decide +kernel
theorem dX12_read_139 : decode cX12_read 139 = .ok (.iconst 0, 1) := by decide +kernel
theorem dX12_read_140 : decode cX12_read 140 = .ok (.putfield 276, 3) := by decide +kernel
theorem dX12_read_143 : decode cX12_read 143 = .ok (.aload_n 0, 1) := by decide +kernel
theorem dX12_read_144 : decode cX12_read 144 = .ok (.getfield 291, 3) := by decide +kernel
theorem dX12_read_147 : decode cX12_read 147 = .ok (.ifCond .ne 20, 3) := by decide +kernel
theorem dX12_read_150 : decode cX12_read 150 = .ok (.aload_n 0, 1) := by decide +kernel
theorem dX12_read_151 : decode cX12_read 151 = .ok (.getfield 334, 3) := by decide +kernel
theorem dX12_read_154 : decode cX12_read 154 = .ok (.ifCond .lt 13, 3) := by decide +kernel
theorem dX12_read_167 : decode cX12_read 167 = .ok (.aload_n 0, 1) := by decide +kernel
theorem dX12_read_168 : decode cX12_read 168 = .ok (.aload_n 0, 1) := by decide +kernel
theorem dX12_read_169 : decode cX12_read 169 = .ok (.getfield 396, 3) := by decide +kernel
theorem dX12_read_172 : decode cX12_read 172 = .ok (.putfield 571, 3) := by decide +kernel
theorem dX12_read_175 : decode cX12_read 175 = .ok (.aload_n 0, 1) := by decide +kernel
theorem dX12_read_176 : decode cX12_read 176 = .ok (.aload_n 0, 1) := by decide +kernel
theorem dX12_read_177 : decode cX12_read 177 = .ok (.getfield 291, 3) := by decide +kernel
theorem dX12_read_180 : decode cX12_read 180 = .ok (.putfield 574, 3) := by decide +kernel
theorem dX12_read_183 : decode cX12_read 183 = .ok (.aload_n 0, 1) := by decide +kernel
theorem dX12_read_184 : decode cX12_read 184 = .ok (.aload_n 0, 1) := by decide +kernel
theorem dX12_read_185 : decode cX12_read 185 = .ok (.getfield 291, 3) := by decide +kernel
theorem dX12_read_188 : decode cX12_read 188 = .ok (.ifCond .ne 7, 3) := by decide +kernel
theorem dX12_read_191 : decode cX12_read 191 = .ok (.iconst 1, 1) := by decide +kernel
theorem dX12_read_192 : decode cX12_read 192 = .ok (.goto 4, 3) := by decide +kernel
theorem dX12_read_196 : decode cX12_read 196 = .ok (.putfield 577, 3) := by decide +kernel
theorem dX12_read_199 : decode cX12_read 199 = .ok (.aload_n 0, 1) := by decide +kernel
theorem dX12_read_200 : decode cX12_read 200 = .ok (.iconst 0, 1) := by decide +kernel
theorem dX12_read_201 : decode cX12_read 201 = .ok (.putfield 580, 3) := by decide +kernel
theorem dX12_read_204 : decode cX12_read 204 = .ok (.aload_n 0, 1) := by decide +kernel
theorem dX12_read_205 : decode cX12_read 205 = .ok (.iconst 0, 1) := by decide +kernel
theorem dX12_read_206 : decode cX12_read 206 = .ok (.putfield 583, 3) := by decide +kernel
theorem dX12_read_209 : decode cX12_read 209 = .ok (.aload_n 0, 1) := by decide +kernel
theorem dX12_read_210 : decode cX12_read 210 = .ok (.getfield 291, 3) := by decide +kernel
theorem dX12_read_213 : decode cX12_read 213 = .ok (.ifCond .eq 13, 3) := by decide +kernel
theorem dX12_read_226 : decode cX12_read 226 = .ok (.aload_n 0, 1) := by decide +kernel
theorem dX12_read_227 : decode cX12_read 227 = .ok (.getfield 494, 3) := by decide +kernel
theorem dX12_read_230 : decode cX12_read 230 = .ok (.ireturn, 1) := by decide +kernel
theorem dX12_fault_0 : decode cX12_fault 0 = .ok (.aload_n 0, 1) := by decide +kernel
theorem dX12_fault_1 : decode cX12_fault 1 = .ok (.iconst 0, 1) := by decide +kernel
theorem dX12_fault_2 : decode cX12_fault 2 = .ok (.putfield 273, 3) := by decide +kernel
theorem dX12_fault_5 : decode cX12_fault 5 = .ok (.aload_n 0, 1) := by decide +kernel
theorem dX12_fault_6 : decode cX12_fault 6 = .ok (.getfield 574, 3) := by decide +kernel
theorem dX12_fault_9 : decode cX12_fault 9 = .ok (.ireturn, 1) := by decide +kernel
theorem dX12_program_0 : decode cX12_program 0 = .ok (.aload_n 0, 1) := by decide +kernel
theorem dX12_program_1 : decode cX12_program 1 = .ok (.iconst 0, 1) := by decide +kernel
theorem dX12_program_2 : decode cX12_program 2 = .ok (.putfield 273, 3) := by decide +kernel
theorem dX12_program_5 : decode cX12_program 5 = .ok (.iload_n 1, 1) := by decide +kernel
theorem dX12_program_6 : decode cX12_program 6 = .ok (.iconst 0, 1) := by decide +kernel
theorem dX12_program_7 : decode cX12_program 7 = .ok (.iconst 3, 1) := by decide +kernel
theorem dX12_program_8 : decode cX12_program 8 = .ok (.invokestatic 279, 3) := by decide +kernel
theorem dX12_program_11 : decode cX12_program 11 = .ok (.ifCond .ne 5, 3) := by decide +kernel
theorem dX12_program_14 : decode cX12_program 14 = .ok (.iconst (-1), 1) := by decide +kernel
theorem dX12_program_15 : decode cX12_program 15 = .ok (.ireturn, 1) := by decide +kernel
theorem dX12_program_16 : decode cX12_program 16 = .ok (.aload_n 0, 1) := by decide +kernel
theorem dX12_program_17 : decode cX12_program 17 = .ok (.getfield 577, 3) := by decide +kernel
theorem dX12_program_20 : decode cX12_program 20 = .ok (.ifCond .ne 6, 3) := by decide +kernel
theorem dX12_program_23 : decode cX12_program 23 = .ok (.bipush (-3), 2) := by decide +kernel
theorem dX12_program_25 : decode cX12_program 25 = .ok (.ireturn, 1) := by decide +kernel
theorem dX12_run_0 : decode cX12_run 0 = .ok (.aload_n 0, 1) := by decide +kernel
theorem dX12_run_1 : decode cX12_run 1 = .ok (.iconst 0, 1) := by decide +kernel
theorem dX12_run_2 : decode cX12_run 2 = .ok (.putfield 273, 3) := by decide +kernel
theorem dX12_run_5 : decode cX12_run 5 = .ok (.aload_n 0, 1) := by decide +kernel
theorem dX12_run_6 : decode cX12_run 6 = .ok (.getfield 577, 3) := by decide +kernel
theorem dX12_run_9 : decode cX12_run 9 = .ok (.ifCond .ne 6, 3) := by decide +kernel
theorem dX12_run_12 : decode cX12_run 12 = .ok (.bipush (-3), 2) := by decide +kernel
theorem dX12_run_14 : decode cX12_run 14 = .ok (.ireturn, 1) := by decide +kernel
theorem dX12_ran_0 : decode cX12_ran 0 = .ok (.aload_n 0, 1) := by decide +kernel
theorem dX12_ran_1 : decode cX12_ran 1 = .ok (.iconst 0, 1) := by decide +kernel
theorem dX12_ran_2 : decode cX12_ran 2 = .ok (.putfield 273, 3) := by decide +kernel
theorem dX12_ran_5 : decode cX12_ran 5 = .ok (.iload_n 1, 1) := by decide +kernel
theorem dX12_ran_6 : decode cX12_ran 6 = .ok (.iconst 0, 1) := by decide +kernel
theorem dX12_ran_7 : decode cX12_ran 7 = .ok (.bipush 6, 2) := by decide +kernel
theorem dX12_ran_9 : decode cX12_ran 9 = .ok (.invokestatic 279, 3) := by decide +kernel
theorem dX12_ran_12 : decode cX12_ran 12 = .ok (.ifCond .ne 5, 3) := by decide +kernel
theorem dX12_ran_15 : decode cX12_ran 15 = .ok (.iconst (-1), 1) := by decide +kernel
theorem dX12_ran_16 : decode cX12_ran 16 = .ok (.ireturn, 1) := by decide +kernel
theorem dX12_ran_17 : decode cX12_ran 17 = .ok (.aload_n 0, 1) := by decide +kernel
theorem dX12_ran_18 : decode cX12_ran 18 = .ok (.getfield 580, 3) := by decide +kernel
theorem dX12_ran_21 : decode cX12_ran 21 = .ok (.ifCond .ne 6, 3) := by decide +kernel
theorem dX12_ran_24 : decode cX12_ran 24 = .ok (.bipush (-3), 2) := by decide +kernel
theorem dX12_ran_26 : decode cX12_ran 26 = .ok (.ireturn, 1) := by decide +kernel
theorem dX12_trace_0 : decode cX12_trace 0 = .ok (.aload_n 0, 1) := by decide +kernel
theorem dX12_trace_1 : decode cX12_trace 1 = .ok (.iconst 0, 1) := by decide +kernel
theorem dX12_trace_2 : decode cX12_trace 2 = .ok (.putfield 273, 3) := by decide +kernel
theorem dX12_trace_5 : decode cX12_trace 5 = .ok (.aload_n 0, 1) := by decide +kernel
theorem dX12_trace_6 : decode cX12_trace 6 = .ok (.getfield 580, 3) := by decide +kernel
theorem dX12_trace_9 : decode cX12_trace 9 = .ok (.ifCond .eq 26, 3) := by decide +kernel
theorem dX12_trace_35 : decode cX12_trace 35 = .ok (.iconst (-1), 1) := by decide +kernel
theorem dX12_trace_36 : decode cX12_trace 36 = .ok (.ireturn, 1) := by decide +kernel
theorem dX12_suppressed_0 : decode cX12_suppressed 0 = .ok (.aload_n 0, 1) := by decide +kernel
theorem dX12_suppressed_1 : decode cX12_suppressed 1 = .ok (.iconst 0, 1) := by decide +kernel
theorem dX12_suppressed_2 : decode cX12_suppressed 2 = .ok (.putfield 273, 3) := by decide +kernel
theorem dX12_suppressed_5 : decode cX12_suppressed 5 = .ok (.aload_n 0, 1) := by decide +kernel
theorem dX12_suppressed_6 : decode cX12_suppressed 6 = .ok (.getfield 580, 3) := by decide +kernel
theorem dX12_suppressed_9 : decode cX12_suppressed 9 = .ok (.ifCond .eq 39, 3) := by decide +kernel
theorem dX12_suppressed_48 : decode cX12_suppressed 48 = .ok (.iconst (-1), 1) := by decide +kernel
theorem dX12_suppressed_49 : decode cX12_suppressed 49 = .ok (.ireturn, 1) := by decide +kernel
end
section
theorem zg_nil : ∀ w ∈ ([] : List Cond), goodWord w = true := fun _ h => absurd h List.not_mem_nil
theorem zg_cons {c : Cond} {l : List Cond} (hc : goodWord c = true) (hl : ∀ w ∈ l, goodWord w = true) : ∀ w ∈ c :: l, goodWord w = true := fun w h => (List.mem_cons.mp h).elim (fun e => by rw [e]; exact hc) (hl w)
theorem zg_app {a b : List Cond} (ha : ∀ w ∈ a, goodWord w = true) (hb : ∀ w ∈ b, goodWord w = true) : ∀ w ∈ a ++ b, goodWord w = true := fun w h => (List.mem_append.mp h).elim (ha w) (hb w)
theorem zg_lit {l : List Cond} (h : l.all goodWord = true) : ∀ w ∈ l, goodWord w = true := List.all_eq_true.mp h
theorem zg_of {big ws : List Cond} (hm : ∀ w ∈ ws, w ∈ big) (hg : ∀ w ∈ ws, goodWord w = true) : GoodIn big ws := fun w h => ⟨hm w h, good_of_word (hg w h)⟩
theorem zt_nil : ∀ w ∈ ([] : List Cond), w ∈ lw_tbl := fun _ h => absurd h List.not_mem_nil
theorem zt_cons {c : Cond} {l : List Cond} (hc : c ∈ lw_tbl) (hl : ∀ w ∈ l, w ∈ lw_tbl) : ∀ w ∈ c :: l, w ∈ lw_tbl := fun w h => (List.mem_cons.mp h).elim (fun e => by rw [e]; exact hc) (hl w)
theorem zt_app {a b : List Cond} (ha : ∀ w ∈ a, w ∈ lw_tbl) (hb : ∀ w ∈ b, w ∈ lw_tbl) : ∀ w ∈ a ++ b, w ∈ lw_tbl := fun w h => (List.mem_append.mp h).elim (ha w) (hb w)
theorem wgcX11 : ∀ w ∈ wsX110, goodWord w = true := zg_lit (by decide +kernel)
theorem wgcX10 : ∀ w ∈ wsX100, goodWord w = true := zg_lit (by decide +kernel)
theorem wgcX0 : ∀ w ∈ wsX00, goodWord w = true := zg_lit (by decide +kernel)
theorem wgcX4 : ∀ w ∈ wsX40, goodWord w = true := zg_lit (by decide +kernel)
theorem wgcX6 : ∀ w ∈ wsX60, goodWord w = true := zg_lit (by decide +kernel)
theorem wgcX9 : ∀ w ∈ wsX90, goodWord w = true := zg_lit (by decide +kernel)
theorem wgcX5 : ∀ w ∈ wsX50, goodWord w = true := zg_lit (by decide +kernel)
theorem wgcX7 : ∀ w ∈ wsX70, goodWord w = true := zg_lit (by decide +kernel)
theorem wgcX12 : ∀ w ∈ wsX120, goodWord w = true := zg_lit (by decide +kernel)
theorem wgcX3 : ∀ w ∈ wsX30, goodWord w = true := zg_lit (by decide +kernel)
def woX11_put : List Cond := []
def wzX11_put : List Cond := .code yX11_put cX11_put 3 none :: (woX11_put ++ [])
theorem wgX11_put : ∀ w ∈ wzX11_put, goodWord w = true := zg_cons rfl (zg_app (zg_lit (by decide +kernel)) zg_nil)
def woX11_at : List Cond := []
def wzX11_at : List Cond := .code yX11_at cX11_at 2 (some .int) :: (woX11_at ++ [])
theorem wgX11_at : ∀ w ∈ wzX11_at, goodWord w = true := zg_cons rfl (zg_app (zg_lit (by decide +kernel)) zg_nil)
def woX11_cut : List Cond := [.fieldLink RX11 50 "StatementRules2" "length" "I"]
def wzX11_cut : List Cond := .code yX11_cut cX11_cut 3 (some .int) :: (woX11_cut ++ (wsX110 ++ []))
theorem wgX11_cut : ∀ w ∈ wzX11_cut, goodWord w = true := zg_cons rfl (zg_app (zg_lit (by decide +kernel)) (zg_app wgcX11 zg_nil))
def woX11_fault : List Cond := [.fieldLink RX11 91 "StatementRules2" "latestFault" "I"]
def wzX11_fault : List Cond := .code yX11_fault cX11_fault 1 (some .int) :: (woX11_fault ++ (wsX110 ++ []))
theorem wgX11_fault : ∀ w ∈ wzX11_fault, goodWord w = true := zg_cons rfl (zg_app (zg_lit (by decide +kernel)) (zg_app wgcX11 zg_nil))
def woX11_run : List Cond := [.fieldLink RX11 94 "StatementRules2" "hasProgram" "Z"]
def wzX11_run : List Cond := .code yX11_run cX11_run 3 (some .int) :: (woX11_run ++ (wsX110 ++ []))
theorem wgX11_run : ∀ w ∈ wzX11_run, goodWord w = true := zg_cons rfl (zg_app (zg_lit (by decide +kernel)) (zg_app wgcX11 zg_nil))
def woX11_program : List Cond := [.fieldLink RX11 94 "StatementRules2" "hasProgram" "Z"]
def wzX11_program : List Cond := .code yX11_program cX11_program 2 (some .int) :: (woX11_program ++ (wsX110 ++ []))
theorem wgX11_program : ∀ w ∈ wzX11_program, goodWord w = true := zg_cons rfl (zg_app (zg_lit (by decide +kernel)) (zg_app wgcX11 zg_nil))
def woX11_ran : List Cond := [.fieldLink RX11 85 "StatementRules2" "hasRun" "Z"]
def wzX11_ran : List Cond := .code yX11_ran cX11_ran 2 (some .int) :: (woX11_ran ++ (wsX110 ++ []))
theorem wgX11_ran : ∀ w ∈ wzX11_ran, goodWord w = true := zg_cons rfl (zg_app (zg_lit (by decide +kernel)) (zg_app wgcX11 zg_nil))
def woX11_trace : List Cond := [.fieldLink RX11 85 "StatementRules2" "hasRun" "Z"]
def wzX11_trace : List Cond := .code yX11_trace cX11_trace 3 (some .int) :: (woX11_trace ++ (wsX110 ++ []))
theorem wgX11_trace : ∀ w ∈ wzX11_trace, goodWord w = true := zg_cons rfl (zg_app (zg_lit (by decide +kernel)) (zg_app wgcX11 zg_nil))
def woX11_suppressed : List Cond := [.fieldLink RX11 85 "StatementRules2" "hasRun" "Z"]
def wzX11_suppressed : List Cond := .code yX11_suppressed cX11_suppressed 4 (some .int) :: (woX11_suppressed ++ (wsX110 ++ []))
theorem wgX11_suppressed : ∀ w ∈ wzX11_suppressed, goodWord w = true := zg_cons rfl (zg_app (zg_lit (by decide +kernel)) (zg_app wgcX11 zg_nil))
def woX11_asserts : List Cond := [.fieldLink RX11 16 "StatementRules2" "told" "LStatementRules2$Told;"]
def wzX11_asserts : List Cond := .code yX11_asserts cX11_asserts 3 (some .int) :: (woX11_asserts ++ (wsX110 ++ (wsX100 ++ [])))
theorem wgX11_asserts : ∀ w ∈ wzX11_asserts, goodWord w = true := zg_cons rfl (zg_app (zg_lit (by decide +kernel)) (zg_app wgcX11 (zg_app wgcX10 zg_nil)))
def woX10_isKind : List Cond := [.fieldLink RX10 24 "StatementRules2$Told" "kindCount" "I"]
def wzX10_isKind : List Cond := .code yX10_isKind cX10_isKind 2 (some .boolean) :: (woX10_isKind ++ (wsX100 ++ []))
theorem wgX10_isKind : ∀ w ∈ wzX10_isKind, goodWord w = true := zg_cons rfl (zg_app (zg_lit (by decide +kernel)) (zg_app wgcX10 zg_nil))
def woX10_isFull : List Cond := [.fieldLink RX10 24 "StatementRules2$Told" "kindCount" "I"]
def wzX10_isFull : List Cond := .code yX10_isFull cX10_isFull 1 (some .boolean) :: (woX10_isFull ++ (wsX100 ++ []))
theorem wgX10_isFull : ∀ w ∈ wzX10_isFull, goodWord w = true := zg_cons rfl (zg_app (zg_lit (by decide +kernel)) (zg_app wgcX10 zg_nil))
def woX10_addKind : List Cond := [.fieldLink RX10 9 "StatementRules2$Told" "above" "[I", .fieldLink RX10 24 "StatementRules2$Told" "kindCount" "I", .initialized RX11, .static yX11_put]
def wzX10_addKind : List Cond := .code yX10_addKind cX10_addKind 2 (some .int) :: (woX10_addKind ++ (wsX100 ++ (wzX11_put ++ [])))
theorem wgX10_addKind : ∀ w ∈ wzX10_addKind, goodWord w = true := zg_cons rfl (zg_app (zg_lit (by decide +kernel)) (zg_app wgcX10 (zg_app wgX11_put zg_nil)))
def woX11_kind : List Cond := [.fieldLink RX11 16 "StatementRules2" "told" "LStatementRules2$Told;", .methodLink RX11 62 yX10_isKind, .instanceMethod yX10_isKind, .selects RX10 yX10_isKind yX10_isKind, .initialized RX10, .methodLink RX11 66 yX10_isFull, .instanceMethod yX10_isFull, .selects RX10 yX10_isFull yX10_isFull, .methodLink RX11 70 yX10_addKind, .instanceMethod yX10_addKind, .selects RX10 yX10_addKind yX10_addKind]
def wzX11_kind : List Cond := .code yX11_kind cX11_kind 2 (some .int) :: (woX11_kind ++ (wsX110 ++ (wzX10_isKind ++ (wzX10_isFull ++ (wzX10_addKind ++ [])))))
theorem wgX11_kind : ∀ w ∈ wzX11_kind, goodWord w = true := zg_cons rfl (zg_app (zg_lit (by decide +kernel)) (zg_app wgcX11 (zg_app wgX10_isKind (zg_app wgX10_isFull (zg_app wgX10_addKind zg_nil)))))
def woX11_isKindOrNothing : List Cond := [.fieldLink RX11 16 "StatementRules2" "told" "LStatementRules2$Told;", .methodLink RX11 62 yX10_isKind, .instanceMethod yX10_isKind, .selects RX10 yX10_isKind yX10_isKind, .initialized RX10]
def wzX11_isKindOrNothing : List Cond := .code yX11_isKindOrNothing cX11_isKindOrNothing 2 (some .boolean) :: (woX11_isKindOrNothing ++ (wsX110 ++ (wzX10_isKind ++ [])))
theorem wgX11_isKindOrNothing : ∀ w ∈ wzX11_isKindOrNothing, goodWord w = true := zg_cons rfl (zg_app (zg_lit (by decide +kernel)) (zg_app wgcX11 (zg_app wgX10_isKind zg_nil)))
def woX10_tellResource : List Cond := [.fieldLink RX10 15 "StatementRules2$Told" "isNull" "[I", .initialized RX11, .static yX11_put, .fieldLink RX10 18 "StatementRules2$Told" "opening" "[I", .fieldLink RX10 21 "StatementRules2$Told" "closing" "[I"]
def wzX10_tellResource : List Cond := .code yX10_tellResource cX10_tellResource 5 none :: (woX10_tellResource ++ (wsX100 ++ (wzX11_put ++ [])))
theorem wgX10_tellResource : ∀ w ∈ wzX10_tellResource, goodWord w = true := zg_cons rfl (zg_app (zg_lit (by decide +kernel)) (zg_app wgcX10 (zg_app wgX11_put zg_nil)))
def woX11_resource : List Cond := [.fieldLink RX11 16 "StatementRules2" "told" "LStatementRules2$Told;", .methodLink RX11 74 yX11_isKindOrNothing, .instanceMethod yX11_isKindOrNothing, .selects RX11 yX11_isKindOrNothing yX11_isKindOrNothing, .initialized RX11, .methodLink RX11 77 yX10_tellResource, .instanceMethod yX10_tellResource, .selects RX10 yX10_tellResource yX10_tellResource, .initialized RX10]
def wzX11_resource : List Cond := .code yX11_resource cX11_resource 5 (some .int) :: (woX11_resource ++ (wsX110 ++ (wzX11_isKindOrNothing ++ (wzX10_tellResource ++ []))))
theorem wgX11_resource : ∀ w ∈ wzX11_resource, goodWord w = true := zg_cons rfl (zg_app (zg_lit (by decide +kernel)) (zg_app wgcX11 (zg_app wgX11_isKindOrNothing (zg_app wgX10_tellResource zg_nil))))
def woX10_isUnder : List Cond := [.fieldLink RX10 9 "StatementRules2$Told" "above" "[I", .initialized RX11, .static yX11_at]
def wzX10_isUnder : List Cond := .code yX10_isUnder cX10_isUnder 5 (some .boolean) :: (woX10_isUnder ++ (wsX100 ++ (wzX11_at ++ [])))
theorem wgX10_isUnder : ∀ w ∈ wzX10_isUnder, goodWord w = true := zg_cons rfl (zg_app (zg_lit (by decide +kernel)) (zg_app wgcX10 (zg_app wgX11_at zg_nil)))
def woX11_under : List Cond := [.fieldLink RX11 16 "StatementRules2" "told" "LStatementRules2$Told;", .methodLink RX11 62 yX10_isKind, .instanceMethod yX10_isKind, .selects RX10 yX10_isKind yX10_isKind, .initialized RX10, .methodLink RX11 144 yX10_isUnder, .instanceMethod yX10_isUnder, .selects RX10 yX10_isUnder yX10_isUnder]
def wzX11_under : List Cond := .code yX11_under cX11_under 3 (some .int) :: (woX11_under ++ (wsX110 ++ (wzX10_isKind ++ (wzX10_isUnder ++ []))))
theorem wgX11_under : ∀ w ∈ wzX11_under, goodWord w = true := zg_cons rfl (zg_app (zg_lit (by decide +kernel)) (zg_app wgcX11 (zg_app wgX10_isKind (zg_app wgX10_isUnder zg_nil))))
def woX11_addBytes : List Cond := [.fieldLink RX11 9 "StatementRules2" "tape" "[I", .fieldLink RX11 50 "StatementRules2" "length" "I", .methodLink RX11 58 yX11_put, .static yX11_put, .initialized RX11]
def wzX11_addBytes : List Cond := .code yX11_addBytes cX11_addBytes 3 none :: (woX11_addBytes ++ (wsX110 ++ (wzX11_put ++ [])))
theorem wgX11_addBytes : ∀ w ∈ wzX11_addBytes, goodWord w = true := zg_cons rfl (zg_app (zg_lit (by decide +kernel)) (zg_app wgcX11 (zg_app wgX11_put zg_nil)))
def woX11_feed : List Cond := [.fieldLink RX11 50 "StatementRules2" "length" "I", .methodLink RX11 54 yX11_addBytes, .instanceMethod yX11_addBytes, .selects RX11 yX11_addBytes yX11_addBytes, .initialized RX11]
def wzX11_feed : List Cond := .code yX11_feed cX11_feed 6 (some .int) :: (woX11_feed ++ (wsX110 ++ (wzX11_addBytes ++ [])))
theorem wgX11_feed : ∀ w ∈ wzX11_feed, goodWord w = true := zg_cons rfl (zg_app (zg_lit (by decide +kernel)) (zg_app wgcX11 (zg_app wgX11_addBytes zg_nil)))
def woX0_clear : List Cond := [.fieldLink RX0 27 "StatementRules2$Code" "size" "I", .fieldLink RX0 31 "StatementRules2$Code" "targetCount" "I", .fieldLink RX0 34 "StatementRules2$Code" "caseCount" "I", .fieldLink RX0 37 "StatementRules2$Code" "cellCount" "I", .fieldLink RX0 40 "StatementRules2$Code" "statements" "I", .fieldLink RX0 43 "StatementRules2$Code" "toldNames" "I", .fieldLink RX0 46 "StatementRules2$Code" "jumps" "I", .fieldLink RX0 49 "StatementRules2$Code" "endReached" "Z"]
def wzX0_clear : List Cond := .code yX0_clear cX0_clear 1 none :: (woX0_clear ++ (wsX00 ++ []))
theorem wgX0_clear : ∀ w ∈ wzX0_clear, goodWord w = true := zg_cons rfl (zg_app (zg_lit (by decide +kernel)) (zg_app wgcX0 zg_nil))
def woX0_newCells : List Cond := [.fieldLink RX0 37 "StatementRules2$Code" "cellCount" "I"]
def wzX0_newCells : List Cond := .code yX0_newCells cX0_newCells 2 (some .int) :: (woX0_newCells ++ (wsX00 ++ []))
theorem wgX0_newCells : ∀ w ∈ wzX0_newCells, goodWord w = true := zg_cons rfl (zg_app (zg_lit (by decide +kernel)) (zg_app wgcX0 zg_nil))
def woX0_add : List Cond := [.fieldLink RX0 9 "StatementRules2$Code" "ops" "[I", .fieldLink RX0 27 "StatementRules2$Code" "size" "I", .initialized RX11, .static yX11_put, .fieldLink RX0 15 "StatementRules2$Code" "arguments" "[I"]
def wzX0_add : List Cond := .code yX0_add cX0_add 3 none :: (woX0_add ++ (wsX00 ++ (wzX11_put ++ [])))
theorem wgX0_add : ∀ w ∈ wzX0_add, goodWord w = true := zg_cons rfl (zg_app (zg_lit (by decide +kernel)) (zg_app wgcX0 (zg_app wgX11_put zg_nil)))
def woX4_add : List Cond := [.fieldLink RX4 20 "StatementRules2$Names" "count" "I", .fieldLink RX4 7 "StatementRules2$Names" "names" "[J", .fieldLink RX4 13 "StatementRules2$Names" "cells" "[I", .fieldLink RX4 17 "StatementRules2$Names" "frames" "[I"]
def wzX4_add : List Cond := .code yX4_add cX4_add 5 none :: (woX4_add ++ (wsX40 ++ []))
theorem wgX4_add : ∀ w ∈ wzX4_add, goodWord w = true := zg_cons rfl (zg_app (zg_lit (by decide +kernel)) (zg_app wgcX4 zg_nil))
def woX6_clear : List Cond := [.fieldLink RX6 21 "StatementRules2$Opens" "count" "I", .fieldLink RX6 25 "StatementRules2$Opens" "serials" "I", .fieldLink RX6 28 "StatementRules2$Opens" "jumpCount" "I", .fieldLink RX6 31 "StatementRules2$Opens" "arm" "I"]
def wzX6_clear : List Cond := .code yX6_clear cX6_clear 1 none :: (woX6_clear ++ (wsX60 ++ []))
theorem wgX6_clear : ∀ w ∈ wzX6_clear, goodWord w = true := zg_cons rfl (zg_app (zg_lit (by decide +kernel)) (zg_app wgcX6 zg_nil))
def woX9_byteAt : List Cond := [.fieldLink RX9 31 "StatementRules2$Tokens" "length" "I"]
def wzX9_byteAt : List Cond := .code yX9_byteAt cX9_byteAt 2 (some .int) :: (woX9_byteAt ++ (wsX90 ++ []))
theorem wgX9_byteAt : ∀ w ∈ wzX9_byteAt, goodWord w = true := zg_cons rfl (zg_app (zg_lit (by decide +kernel)) (zg_app wgcX9 zg_nil))
def woX9_advance : List Cond := [.fieldLink RX9 34 "StatementRules2$Tokens" "next" "I", .fieldLink RX9 47 "StatementRules2$Tokens" "place" "I", .fieldLink RX9 31 "StatementRules2$Tokens" "length" "I", .fieldLink RX9 40 "StatementRules2$Tokens" "type" "I", .methodLink RX9 43 yX9_byteAt, .instanceMethod yX9_byteAt, .selects RX9 yX9_byteAt yX9_byteAt, .initialized RX9]
def wzX9_advance : List Cond := .code yX9_advance cX9_advance 2 none :: (woX9_advance ++ (wsX90 ++ (wzX9_byteAt ++ [])))
theorem wgX9_advance : ∀ w ∈ wzX9_advance, goodWord w = true := zg_cons rfl (zg_app (zg_lit (by decide +kernel)) (zg_app wgcX9 (zg_app wgX9_byteAt zg_nil)))
def woX9_start : List Cond := [.fieldLink RX9 31 "StatementRules2$Tokens" "length" "I", .fieldLink RX9 34 "StatementRules2$Tokens" "next" "I", .methodLink RX9 37 yX9_advance, .instanceMethod yX9_advance, .selects RX9 yX9_advance yX9_advance, .initialized RX9]
def wzX9_start : List Cond := .code yX9_start cX9_start 2 none :: (woX9_start ++ (wsX90 ++ (wzX9_advance ++ [])))
theorem wgX9_start : ∀ w ∈ wzX9_start, goodWord w = true := zg_cons rfl (zg_app (zg_lit (by decide +kernel)) (zg_app wgcX9 (zg_app wgX9_advance zg_nil)))
def woX5_init : List Cond := [.methodLink RX5 3 objectInit, .instanceMethod objectInit, .code objectInit ⟨#[0xb1]⟩ 1 none]
def wzX5_init : List Cond := .code yX5_init cX5_init 1 none :: (woX5_init ++ [])
theorem wgX5_init : ∀ w ∈ wzX5_init, goodWord w = true := zg_cons rfl (zg_app (zg_lit (by decide +kernel)) zg_nil)
def woX6_push : List Cond := [.fieldLink RX6 21 "StatementRules2$Opens" "count" "I", .fieldLink RX6 11 "StatementRules2$Opens" "rows" "[LStatementRules2$Open;", .methodLink RX6 34 yJ9_min_7cf53, .static yJ9_min_7cf53, .initialized RJ9, .code yJ9_min_7cf53 cJ9_min_7cf53 2 (some .int), .classLink RX6 9 RX5, .instantiable RX5 17, .initialized RX5, .instanceMethod yX5_init, .fieldLink RX6 25 "StatementRules2$Opens" "serials" "I", .fieldLink RX6 28 "StatementRules2$Opens" "jumpCount" "I"]
def wzX6_push : List Cond := .code yX6_push cX6_push 6 (some (.object "StatementRules2$Open")) :: (woX6_push ++ (wsX60 ++ (wsX50 ++ (wzX5_init ++ []))))
theorem wgX6_push : ∀ w ∈ wzX6_push, goodWord w = true := zg_cons rfl (zg_app (zg_lit (by decide +kernel)) (zg_app wgcX6 (zg_app wgcX5 (zg_app wgX5_init zg_nil))))
def woX6_row : List Cond := [.fieldLink RX6 21 "StatementRules2$Opens" "count" "I", .fieldLink RX6 11 "StatementRules2$Opens" "rows" "[LStatementRules2$Open;"]
def wzX6_row : List Cond := .code yX6_row cX6_row 2 (some (.object "StatementRules2$Open")) :: (woX6_row ++ (wsX60 ++ []))
theorem wgX6_row : ∀ w ∈ wzX6_row, goodWord w = true := zg_cons rfl (zg_app (zg_lit (by decide +kernel)) (zg_app wgcX6 zg_nil))
def woX6_pop : List Cond := [.fieldLink RX6 21 "StatementRules2$Opens" "count" "I", .methodLink RX6 85 yJ9_max_7cf53, .static yJ9_max_7cf53, .initialized RJ9, .code yJ9_max_7cf53 cJ9_max_7cf53 2 (some .int)]
def wzX6_pop : List Cond := .code yX6_pop cX6_pop 1 none :: (woX6_pop ++ (wsX60 ++ []))
theorem wgX6_pop : ∀ w ∈ wzX6_pop, goodWord w = true := zg_cons rfl (zg_app (zg_lit (by decide +kernel)) (zg_app wgcX6 zg_nil))
def woX5_isLoop : List Cond := [.fieldLink RX5 9 "StatementRules2$Open" "sort" "I"]
def wzX5_isLoop : List Cond := .code yX5_isLoop cX5_isLoop 1 (some .boolean) :: (woX5_isLoop ++ (wsX50 ++ []))
theorem wgX5_isLoop : ∀ w ∈ wzX5_isLoop, goodWord w = true := zg_cons rfl (zg_app (zg_lit (by decide +kernel)) (zg_app wgcX5 zg_nil))
def woX5_hasOneBody : List Cond := [.fieldLink RX5 9 "StatementRules2$Open" "sort" "I", .methodLink RX5 15 yX5_isLoop, .instanceMethod yX5_isLoop, .selects RX5 yX5_isLoop yX5_isLoop, .initialized RX5]
def wzX5_hasOneBody : List Cond := .code yX5_hasOneBody cX5_hasOneBody 1 (some .boolean) :: (woX5_hasOneBody ++ (wsX50 ++ (wzX5_isLoop ++ [])))
theorem wgX5_hasOneBody : ∀ w ∈ wzX5_hasOneBody, goodWord w = true := zg_cons rfl (zg_app (zg_lit (by decide +kernel)) (zg_app wgcX5 (zg_app wgX5_isLoop zg_nil)))
def woX1_found : List Cond := [.fieldLink RX1 18 "StatementRules2$Formulas" "tokens" "LStatementRules2$Tokens;"]
def wzX1_found : List Cond := .code yX1_found cX1_found 2 (some .boolean) :: (woX1_found ++ (wsX70 ++ (wsX90 ++ [])))
theorem wgX1_found : ∀ w ∈ wzX1_found, goodWord w = true := zg_cons rfl (zg_app (zg_lit (by decide +kernel)) (zg_app wgcX7 (zg_app wgcX9 zg_nil)))
def woX1_expect : List Cond := [.fieldLink RX1 18 "StatementRules2$Formulas" "tokens" "LStatementRules2$Tokens;", .methodLink RX1 42 ⟨"StatementRules2$Formulas", "found", "(I)Z"⟩, .sameMethod "StatementRules2$Formulas" "StatementRules2$Formulas" "found" "(I)Z", .selects RX7 ⟨"StatementRules2$Formulas", "found", "(I)Z"⟩ yX1_found, .instanceMethod yX1_found, .initialized RX1, .methodLink RX1 56 yX9_advance, .instanceMethod yX9_advance, .selects RX9 yX9_advance yX9_advance, .initialized RX9]
def wzX1_expect : List Cond := .code yX1_expect cX1_expect 2 none :: (woX1_expect ++ (wsX70 ++ (wzX1_found ++ (wzX9_advance ++ []))))
theorem wgX1_expect : ∀ w ∈ wzX1_expect, goodWord w = true := zg_cons rfl (zg_app (zg_lit (by decide +kernel)) (zg_app wgcX7 (zg_app wgX1_found (zg_app wgX9_advance zg_nil))))
def woX7_endList : List Cond := [.fieldLink RX7 20 "StatementRules2$Statements" "code" "LStatementRules2$Code;", .sameField "StatementRules2$Statements" "StatementRules2$Formulas" "code" "LStatementRules2$Code;", .fieldLink RX7 61 "StatementRules2$Statements" "alive" "Z", .fieldLink RX7 14 "StatementRules2$Statements" "opens" "LStatementRules2$Opens;", .methodLink RX7 155 ⟨"StatementRules2$Statements", "expect", "(I)V"⟩, .sameMethod "StatementRules2$Statements" "StatementRules2$Formulas" "expect" "(I)V", .selects RX7 ⟨"StatementRules2$Statements", "expect", "(I)V"⟩ yX1_expect, .instanceMethod yX1_expect, .initialized RX1, .methodLink RX7 176 yX0_add, .instanceMethod yX0_add, .selects RX0 yX0_add yX0_add, .initialized RX0, .methodLink RX7 369 yX6_pop, .instanceMethod yX6_pop, .selects RX6 yX6_pop yX6_pop, .initialized RX6]
def wzX7_endList : List Cond := .code yX7_endList cX7_endList 2 none :: (woX7_endList ++ (wsX50 ++ (wsX70 ++ (wsX00 ++ (wzX1_expect ++ (wzX0_add ++ (wzX6_pop ++ [])))))))
theorem wgX7_endList : ∀ w ∈ wzX7_endList, goodWord w = true := zg_cons rfl (zg_app (zg_lit (by decide +kernel)) (zg_app wgcX5 (zg_app wgcX7 (zg_app wgcX0 (zg_app wgX1_expect (zg_app wgX0_add (zg_app wgX6_pop zg_nil)))))))
def woX7_turns : List Cond := [.fieldLink RX7 52 "StatementRules2$Statements" "faultNumber" "I", .sameField "StatementRules2$Statements" "StatementRules2$Formulas" "faultNumber" "I", .fieldLink RX7 14 "StatementRules2$Statements" "opens" "LStatementRules2$Opens;", .methodLink RX7 93 yX6_row, .instanceMethod yX6_row, .selects RX6 yX6_row yX6_row, .initialized RX6, .methodLink RX7 97 yX5_hasOneBody, .instanceMethod yX5_hasOneBody, .selects RX5 yX5_hasOneBody yX5_hasOneBody, .initialized RX5, .methodLink RX7 110 ⟨"StatementRules2$Statements", "found", "(I)Z"⟩, .sameMethod "StatementRules2$Statements" "StatementRules2$Formulas" "found" "(I)Z", .selects RX7 ⟨"StatementRules2$Statements", "found", "(I)Z"⟩ yX1_found, .instanceMethod yX1_found, .initialized RX1, .methodLink RX7 120 yX7_endList, .instanceMethod yX7_endList, .selects RX7 yX7_endList yX7_endList, .initialized RX7]
def wzX7_turns : List Cond := .code yX7_turns cX7_turns 4 none :: (woX7_turns ++ (wsX70 ++ (wsX60 ++ (wsX50 ++ (wzX6_row ++ (wzX5_hasOneBody ++ (wzX1_found ++ (wzX7_endList ++ []))))))))
theorem wgX7_turns : ∀ w ∈ wzX7_turns, goodWord w = true := zg_cons rfl (zg_app (zg_lit (by decide +kernel)) (zg_app wgcX7 (zg_app wgcX6 (zg_app wgcX5 (zg_app wgX6_row (zg_app wgX5_hasOneBody (zg_app wgX1_found (zg_app wgX7_endList zg_nil))))))))
def woX7_translate : List Cond := [.fieldLink RX7 20 "StatementRules2$Statements" "code" "LStatementRules2$Code;", .sameField "StatementRules2$Statements" "StatementRules2$Formulas" "code" "LStatementRules2$Code;", .fieldLink RX7 29 "StatementRules2$Statements" "names" "LStatementRules2$Names;", .sameField "StatementRules2$Statements" "StatementRules2$Formulas" "names" "LStatementRules2$Names;", .constantLong RX7 39 (97), .constantLong RX7 49 (98), .fieldLink RX7 14 "StatementRules2$Statements" "opens" "LStatementRules2$Opens;", .fieldLink RX7 52 "StatementRules2$Statements" "faultNumber" "I", .sameField "StatementRules2$Statements" "StatementRules2$Formulas" "faultNumber" "I", .fieldLink RX7 55 "StatementRules2$Statements" "faultPlace" "I", .sameField "StatementRules2$Statements" "StatementRules2$Formulas" "faultPlace" "I", .fieldLink RX7 58 "StatementRules2$Statements" "openSigns" "I", .sameField "StatementRules2$Statements" "StatementRules2$Formulas" "openSigns" "I", .fieldLink RX7 61 "StatementRules2$Statements" "alive" "Z", .fieldLink RX7 65 "StatementRules2$Statements" "unreached" "I", .fieldLink RX7 68 "StatementRules2$Statements" "depth" "I", .fieldLink RX7 71 "StatementRules2$Statements" "tokens" "LStatementRules2$Tokens;", .sameField "StatementRules2$Statements" "StatementRules2$Formulas" "tokens" "LStatementRules2$Tokens;", .methodLink RX7 24 yX0_clear, .instanceMethod yX0_clear, .selects RX0 yX0_clear yX0_clear, .initialized RX0, .methodLink RX7 41 yX0_newCells, .instanceMethod yX0_newCells, .selects RX0 yX0_newCells yX0_newCells, .methodLink RX7 45 yX4_add, .instanceMethod yX4_add, .selects RX4 yX4_add yX4_add, .initialized RX4, .methodLink RX7 51 yX6_clear, .instanceMethod yX6_clear, .selects RX6 yX6_clear yX6_clear, .initialized RX6, .methodLink RX7 75 yX9_start, .instanceMethod yX9_start, .selects RX9 yX9_start yX9_start, .initialized RX9, .methodLink RX7 81 yX6_push, .instanceMethod yX6_push, .selects RX6 yX6_push yX6_push, .methodLink RX7 85 yX7_turns, .instanceMethod yX7_turns, .selects RX7 yX7_turns yX7_turns, .initialized RX7]
def wzX7_translate : List Cond := .code yX7_translate cX7_translate 2 (some .int) :: (woX7_translate ++ (wsX70 ++ (wsX40 ++ (wzX0_clear ++ (wzX0_newCells ++ (wzX4_add ++ (wzX6_clear ++ (wzX9_start ++ (wzX6_push ++ (wzX7_turns ++ []))))))))))
theorem wgX7_translate : ∀ w ∈ wzX7_translate, goodWord w = true := zg_cons rfl (zg_app (zg_lit (by decide +kernel)) (zg_app wgcX7 (zg_app wgcX4 (zg_app wgX0_clear (zg_app wgX0_newCells (zg_app wgX4_add (zg_app wgX6_clear (zg_app wgX9_start (zg_app wgX6_push (zg_app wgX7_turns zg_nil))))))))))
def woX11_read : List Cond := [.fieldLink RX11 50 "StatementRules2" "length" "I", .fieldLink RX11 85 "StatementRules2" "hasRun" "Z", .fieldLink RX11 37 "StatementRules2" "reader" "LStatementRules2$Statements;", .fieldLink RX11 91 "StatementRules2" "latestFault" "I", .fieldLink RX11 94 "StatementRules2" "hasProgram" "Z", .fieldLink RX11 23 "StatementRules2" "code" "LStatementRules2$Code;", .methodLink RX11 88 yX7_translate, .instanceMethod yX7_translate, .selects RX7 yX7_translate yX7_translate, .initialized RX7]
def wzX11_read : List Cond := .code yX11_read cX11_read 2 (some .int) :: (woX11_read ++ (wsX110 ++ (wsX00 ++ (wzX7_translate ++ []))))
theorem wgX11_read : ∀ w ∈ wzX11_read, goodWord w = true := zg_cons rfl (zg_app (zg_lit (by decide +kernel)) (zg_app wgcX11 (zg_app wgcX0 (zg_app wgX7_translate zg_nil))))
def woX12_in : List Cond := []
def wzX12_in : List Cond := .code yX12_in cX12_in 3 (some .boolean) :: (woX12_in ++ [])
theorem wgX12_in : ∀ w ∈ wzX12_in, goodWord w = true := zg_cons rfl (zg_app (zg_lit (by decide +kernel)) zg_nil)
def woX12_thrown : List Cond := [.fieldLink RX12 273 "StatementRules2Model" "thrown" "I"]
def wzX12_thrown : List Cond := .code yX12_thrown cX12_thrown 1 (some .int) :: (woX12_thrown ++ (wsX120 ++ []))
theorem wgX12_thrown : ∀ w ∈ wzX12_thrown, goodWord w = true := zg_cons rfl (zg_app (zg_lit (by decide +kernel)) (zg_app wgcX12 zg_nil))
def woX12_cut : List Cond := [.fieldLink RX12 273 "StatementRules2Model" "thrown" "I", .fieldLink RX12 276 "StatementRules2Model" "taped" "I", .methodLink RX12 279 yX12_in, .static yX12_in, .initialized RX12]
def wzX12_cut : List Cond := .code yX12_cut cX12_cut 3 (some .int) :: (woX12_cut ++ (wsX120 ++ (wzX12_in ++ [])))
theorem wgX12_cut : ∀ w ∈ wzX12_cut, goodWord w = true := zg_cons rfl (zg_app (zg_lit (by decide +kernel)) (zg_app wgcX12 (zg_app wgX12_in zg_nil)))
def woX12_fault : List Cond := [.fieldLink RX12 273 "StatementRules2Model" "thrown" "I", .fieldLink RX12 574 "StatementRules2Model" "lastFault" "I"]
def wzX12_fault : List Cond := .code yX12_fault cX12_fault 1 (some .int) :: (woX12_fault ++ (wsX120 ++ []))
theorem wgX12_fault : ∀ w ∈ wzX12_fault, goodWord w = true := zg_cons rfl (zg_app (zg_lit (by decide +kernel)) (zg_app wgcX12 zg_nil))
def woX12_asserts : List Cond := [.fieldLink RX12 273 "StatementRules2Model" "thrown" "I", .fieldLink RX12 287 "StatementRules2Model" "asserting" "Z"]
def wzX12_asserts : List Cond := .code yX12_asserts cX12_asserts 3 (some .int) :: (woX12_asserts ++ (wsX120 ++ []))
theorem wgX12_asserts : ∀ w ∈ wzX12_asserts, goodWord w = true := zg_cons rfl (zg_app (zg_lit (by decide +kernel)) (zg_app wgcX12 zg_nil))
def woX12_run : List Cond := [.fieldLink RX12 273 "StatementRules2Model" "thrown" "I", .fieldLink RX12 577 "StatementRules2Model" "hasProgram" "Z"]
def wzX12_run : List Cond := .code yX12_run cX12_run 4 (some .int) :: (woX12_run ++ (wsX120 ++ []))
theorem wgX12_run : ∀ w ∈ wzX12_run, goodWord w = true := zg_cons rfl (zg_app (zg_lit (by decide +kernel)) (zg_app wgcX12 zg_nil))
def woX12_trace : List Cond := [.fieldLink RX12 273 "StatementRules2Model" "thrown" "I", .fieldLink RX12 580 "StatementRules2Model" "hasRun" "Z"]
def wzX12_trace : List Cond := .code yX12_trace cX12_trace 3 (some .int) :: (woX12_trace ++ (wsX120 ++ []))
theorem wgX12_trace : ∀ w ∈ wzX12_trace, goodWord w = true := zg_cons rfl (zg_app (zg_lit (by decide +kernel)) (zg_app wgcX12 zg_nil))
def woX12_suppressed : List Cond := [.fieldLink RX12 273 "StatementRules2Model" "thrown" "I", .fieldLink RX12 580 "StatementRules2Model" "hasRun" "Z"]
def wzX12_suppressed : List Cond := .code yX12_suppressed cX12_suppressed 3 (some .int) :: (woX12_suppressed ++ (wsX120 ++ []))
theorem wgX12_suppressed : ∀ w ∈ wzX12_suppressed, goodWord w = true := zg_cons rfl (zg_app (zg_lit (by decide +kernel)) (zg_app wgcX12 zg_nil))
def woX12_program : List Cond := [.fieldLink RX12 273 "StatementRules2Model" "thrown" "I", .fieldLink RX12 577 "StatementRules2Model" "hasProgram" "Z", .methodLink RX12 279 yX12_in, .static yX12_in, .initialized RX12]
def wzX12_program : List Cond := .code yX12_program cX12_program 2 (some .int) :: (woX12_program ++ (wsX120 ++ (wzX12_in ++ [])))
theorem wgX12_program : ∀ w ∈ wzX12_program, goodWord w = true := zg_cons rfl (zg_app (zg_lit (by decide +kernel)) (zg_app wgcX12 (zg_app wgX12_in zg_nil)))
def woX12_ran : List Cond := [.fieldLink RX12 273 "StatementRules2Model" "thrown" "I", .fieldLink RX12 580 "StatementRules2Model" "hasRun" "Z", .methodLink RX12 279 yX12_in, .static yX12_in, .initialized RX12]
def wzX12_ran : List Cond := .code yX12_ran cX12_ran 5 (some .int) :: (woX12_ran ++ (wsX120 ++ (wzX12_in ++ [])))
theorem wgX12_ran : ∀ w ∈ wzX12_ran, goodWord w = true := zg_cons rfl (zg_app (zg_lit (by decide +kernel)) (zg_app wgcX12 (zg_app wgX12_in zg_nil)))
def woX12_kind : List Cond := [.fieldLink RX12 273 "StatementRules2Model" "thrown" "I", .fieldLink RX12 13 "StatementRules2Model" "kinds" "I", .fieldLink RX12 17 "StatementRules2Model" "above" "[I", .methodLink RX12 279 yX12_in, .static yX12_in, .initialized RX12]
def wzX12_kind : List Cond := .code yX12_kind cX12_kind 2 (some .int) :: (woX12_kind ++ (wsX120 ++ (wzX12_in ++ [])))
theorem wgX12_kind : ∀ w ∈ wzX12_kind, goodWord w = true := zg_cons rfl (zg_app (zg_lit (by decide +kernel)) (zg_app wgcX12 (zg_app wgX12_in zg_nil)))
def woX12_isUnder : List Cond := [.fieldLink RX12 17 "StatementRules2Model" "above" "[I"]
def wzX12_isUnder : List Cond := .code yX12_isUnder cX12_isUnder 4 (some .boolean) :: (woX12_isUnder ++ (wsX120 ++ []))
theorem wgX12_isUnder : ∀ w ∈ wzX12_isUnder, goodWord w = true := zg_cons rfl (zg_app (zg_lit (by decide +kernel)) (zg_app wgcX12 zg_nil))
def woX12_under : List Cond := [.fieldLink RX12 273 "StatementRules2Model" "thrown" "I", .fieldLink RX12 13 "StatementRules2Model" "kinds" "I", .methodLink RX12 279 yX12_in, .static yX12_in, .initialized RX12, .methodLink RX12 283 yX12_isUnder, .instanceMethod yX12_isUnder, .selects RX12 yX12_isUnder yX12_isUnder]
def wzX12_under : List Cond := .code yX12_under cX12_under 3 (some .int) :: (woX12_under ++ (wsX120 ++ (wzX12_in ++ (wzX12_isUnder ++ []))))
theorem wgX12_under : ∀ w ∈ wzX12_under, goodWord w = true := zg_cons rfl (zg_app (zg_lit (by decide +kernel)) (zg_app wgcX12 (zg_app wgX12_in (zg_app wgX12_isUnder zg_nil))))
def woX12_resource : List Cond := [.fieldLink RX12 273 "StatementRules2Model" "thrown" "I", .fieldLink RX12 13 "StatementRules2Model" "kinds" "I", .fieldLink RX12 20 "StatementRules2Model" "isNull" "[Z", .fieldLink RX12 24 "StatementRules2Model" "opening" "[I", .fieldLink RX12 27 "StatementRules2Model" "closing" "[I", .methodLink RX12 279 yX12_in, .static yX12_in, .initialized RX12]
def wzX12_resource : List Cond := .code yX12_resource cX12_resource 5 (some .int) :: (woX12_resource ++ (wsX120 ++ (wzX12_in ++ [])))
theorem wgX12_resource : ∀ w ∈ wzX12_resource, goodWord w = true := zg_cons rfl (zg_app (zg_lit (by decide +kernel)) (zg_app wgcX12 (zg_app wgX12_in zg_nil)))
def woX12_feed : List Cond := [.fieldLink RX12 273 "StatementRules2Model" "thrown" "I", .fieldLink RX12 276 "StatementRules2Model" "taped" "I", .fieldLink RX12 7 "StatementRules2Model" "tape" "[I"]
def wzX12_feed : List Cond := .code yX12_feed cX12_feed 8 (some .int) :: (woX12_feed ++ (wsX120 ++ []))
theorem wgX12_feed : ∀ w ∈ wzX12_feed, goodWord w = true := zg_cons rfl (zg_app (zg_lit (by decide +kernel)) (zg_app wgcX12 zg_nil))
def woX12_see : List Cond := [.fieldLink RX12 126 "StatementRules2Model" "seenName" "[J", .fieldLink RX12 361 "StatementRules2Model" "seen" "I", .fieldLink RX12 129 "StatementRules2Model" "seenSlot" "[I", .fieldLink RX12 364 "StatementRules2Model" "slots" "I", .fieldLink RX12 132 "StatementRules2Model" "seenCaught" "[Z"]
def wzX12_see : List Cond := .code yX12_see cX12_see 4 (some .int) :: (woX12_see ++ (wsX120 ++ []))
theorem wgX12_see : ∀ w ∈ wzX12_see, goodWord w = true := zg_cons rfl (zg_app (zg_lit (by decide +kernel)) (zg_app wgcX12 zg_nil))
def woX12_at : List Cond := [.fieldLink RX12 276 "StatementRules2Model" "taped" "I"]
def wzX12_at : List Cond := .code yX12_at cX12_at 2 (some .int) :: (woX12_at ++ (wsX120 ++ []))
theorem wgX12_at : ∀ w ∈ wzX12_at, goodWord w = true := zg_cons rfl (zg_app (zg_lit (by decide +kernel)) (zg_app wgcX12 zg_nil))
def woX12_next : List Cond := [.fieldLink RX12 291 "StatementRules2Model" "fault" "I", .fieldLink RX12 294 "StatementRules2Model" "tokens" "I", .fieldLink RX12 297 "StatementRules2Model" "to" "I", .fieldLink RX12 276 "StatementRules2Model" "taped" "I", .fieldLink RX12 304 "StatementRules2Model" "from" "I", .fieldLink RX12 307 "StatementRules2Model" "tok" "I", .methodLink RX12 300 yX12_at, .instanceMethod yX12_at, .selects RX12 yX12_at yX12_at, .initialized RX12]
def wzX12_next : List Cond := .code yX12_next cX12_next 2 none :: (woX12_next ++ (wsX120 ++ (wzX12_at ++ [])))
theorem wgX12_next : ∀ w ∈ wzX12_next, goodWord w = true := zg_cons rfl (zg_app (zg_lit (by decide +kernel)) (zg_app wgcX12 (zg_app wgX12_at zg_nil)))
def woX12_push : List Cond := [.fieldLink RX12 387 "StatementRules2Model" "top" "I", .fieldLink RX12 174 "StatementRules2Model" "fk" "[I", .fieldLink RX12 177 "StatementRules2Model" "fs" "[I"]
def wzX12_push : List Cond := .code yX12_push cX12_push 2 none :: (woX12_push ++ (wsX120 ++ []))
theorem wgX12_push : ∀ w ∈ wzX12_push, goodWord w = true := zg_cons rfl (zg_app (zg_lit (by decide +kernel)) (zg_app wgcX12 zg_nil))
def woX12_over : List Cond := [.fieldLink RX12 396 "StatementRules2Model" "res" "Z", .fieldLink RX12 387 "StatementRules2Model" "top" "I"]
def wzX12_over : List Cond := .code yX12_over cX12_over 2 none :: (woX12_over ++ (wsX120 ++ []))
theorem wgX12_over : ∀ w ∈ wzX12_over, goodWord w = true := zg_cons rfl (zg_app (zg_lit (by decide +kernel)) (zg_app wgcX12 zg_nil))
def woX12_list : List Cond := [.fieldLink RX12 177 "StatementRules2Model" "fs" "[I", .fieldLink RX12 180 "StatementRules2Model" "fp" "[I", .fieldLink RX12 307 "StatementRules2Model" "tok" "I", .methodLink RX12 490 yX12_over, .instanceMethod yX12_over, .selects RX12 yX12_over yX12_over, .initialized RX12]
def wzX12_list : List Cond := .code yX12_list cX12_list 2 none :: (woX12_list ++ (wsX120 ++ (wzX12_over ++ [])))
theorem wgX12_list : ∀ w ∈ wzX12_list, goodWord w = true := zg_cons rfl (zg_app (zg_lit (by decide +kernel)) (zg_app wgcX12 (zg_app wgX12_over zg_nil)))
def woX12_parse : List Cond := [.fieldLink RX12 387 "StatementRules2Model" "top" "I", .fieldLink RX12 291 "StatementRules2Model" "fault" "I", .fieldLink RX12 174 "StatementRules2Model" "fk" "[I", .methodLink RX12 390 yX12_push, .instanceMethod yX12_push, .selects RX12 yX12_push yX12_push, .initialized RX12, .methodLink RX12 399 yX12_list, .instanceMethod yX12_list, .selects RX12 yX12_list yX12_list]
def wzX12_parse : List Cond := .code yX12_parse cX12_parse 1 none :: (woX12_parse ++ (wsX120 ++ (wzX12_push ++ (wzX12_list ++ []))))
theorem wgX12_parse : ∀ w ∈ wzX12_parse, goodWord w = true := zg_cons rfl (zg_app (zg_lit (by decide +kernel)) (zg_app wgcX12 (zg_app wgX12_push (zg_app wgX12_list zg_nil))))
def woX12_can : List Cond := [.fieldLink RX12 291 "StatementRules2Model" "fault" "I", .fieldLink RX12 307 "StatementRules2Model" "tok" "I"]
def wzX12_can : List Cond := .code yX12_can cX12_can 2 (some .boolean) :: (woX12_can ++ (wsX120 ++ []))
theorem wgX12_can : ∀ w ∈ wzX12_can, goodWord w = true := zg_cons rfl (zg_app (zg_lit (by decide +kernel)) (zg_app wgcX12 zg_nil))
def woX12_read : List Cond := [.fieldLink RX12 273 "StatementRules2Model" "thrown" "I", .fieldLink RX12 361 "StatementRules2Model" "seen" "I", .fieldLink RX12 364 "StatementRules2Model" "slots" "I", .fieldLink RX12 367 "StatementRules2Model" "goals" "I", .fieldLink RX12 348 "StatementRules2Model" "opened" "I", .fieldLink RX12 494 "StatementRules2Model" "statements" "I", .fieldLink RX12 500 "StatementRules2Model" "tellings" "I", .fieldLink RX12 527 "StatementRules2Model" "jumps" "I", .fieldLink RX12 358 "StatementRules2Model" "codes" "I", .fieldLink RX12 478 "StatementRules2Model" "entries" "I", .fieldLink RX12 549 "StatementRules2Model" "tries" "I", .fieldLink RX12 561 "StatementRules2Model" "catches" "I", .fieldLink RX12 377 "StatementRules2Model" "walls" "I", .fieldLink RX12 384 "StatementRules2Model" "pends" "I", .fieldLink RX12 370 "StatementRules2Model" "depth" "I", .fieldLink RX12 297 "StatementRules2Model" "to" "I", .fieldLink RX12 291 "StatementRules2Model" "fault" "I", .fieldLink RX12 334 "StatementRules2Model" "late" "I", .fieldLink RX12 294 "StatementRules2Model" "tokens" "I", .constantLong RX12 564 (97), .constantLong RX12 566 (98), .fieldLink RX12 307 "StatementRules2Model" "tok" "I", .fieldLink RX12 276 "StatementRules2Model" "taped" "I", .fieldLink RX12 396 "StatementRules2Model" "res" "Z", .fieldLink RX12 571 "StatementRules2Model" "endsWell" "Z", .fieldLink RX12 574 "StatementRules2Model" "lastFault" "I", .fieldLink RX12 577 "StatementRules2Model" "hasProgram" "Z", .fieldLink RX12 580 "StatementRules2Model" "hasRun" "Z", .fieldLink RX12 583 "StatementRules2Model" "rowMany" "I", .methodLink RX12 506 yX12_see, .instanceMethod yX12_see, .selects RX12 yX12_see yX12_see, .initialized RX12, .methodLink RX12 345 yX12_next, .instanceMethod yX12_next, .selects RX12 yX12_next yX12_next, .methodLink RX12 568 yX12_parse, .instanceMethod yX12_parse, .selects RX12 yX12_parse yX12_parse, .methodLink RX12 341 yX12_can, .instanceMethod yX12_can, .selects RX12 yX12_can yX12_can]
def wzX12_read : List Cond := .code yX12_read cX12_read 1 (some .int) :: (woX12_read ++ (wsX120 ++ (wzX12_see ++ (wzX12_next ++ (wzX12_parse ++ (wzX12_can ++ []))))))
theorem wgX12_read : ∀ w ∈ wzX12_read, goodWord w = true := zg_cons rfl (zg_app (zg_lit (by decide +kernel)) (zg_app wgcX12 (zg_app wgX12_see (zg_app wgX12_next (zg_app wgX12_parse (zg_app wgX12_can zg_nil))))))
def woX4_init : List Cond := [.methodLink RX4 1 objectInit, .instanceMethod objectInit, .code objectInit ⟨#[0xb1]⟩ 1 none, .arrayClass .long, .fieldLink RX4 7 "StatementRules2$Names" "names" "[J", .arrayClass .int, .fieldLink RX4 13 "StatementRules2$Names" "cells" "[I", .fieldLink RX4 17 "StatementRules2$Names" "frames" "[I"]
def wzX4_init : List Cond := .code yX4_init cX4_init 1 none :: (woX4_init ++ (wsX40 ++ []))
theorem wgX4_init : ∀ w ∈ wzX4_init, goodWord w = true := zg_cons rfl (zg_app (zg_lit (by decide +kernel)) (zg_app wgcX4 zg_nil))
def woX6_init : List Cond := [.methodLink RX6 3 objectInit, .instanceMethod objectInit, .code objectInit ⟨#[0xb1]⟩ 1 none, .classLink RX6 9 RX5, .fieldLink RX6 11 "StatementRules2$Opens" "rows" "[LStatementRules2$Open;", .arrayClass .int, .fieldLink RX6 17 "StatementRules2$Opens" "jumps" "[I"]
def wzX6_init : List Cond := .code yX6_init cX6_init 1 none :: (woX6_init ++ (wsX60 ++ []))
theorem wgX6_init : ∀ w ∈ wzX6_init, goodWord w = true := zg_cons rfl (zg_app (zg_lit (by decide +kernel)) (zg_app wgcX6 zg_nil))
def woX0_init : List Cond := [.methodLink RX0 3 objectInit, .instanceMethod objectInit, .code objectInit ⟨#[0xb1]⟩ 1 none, .arrayClass .int, .fieldLink RX0 9 "StatementRules2$Code" "ops" "[I", .fieldLink RX0 15 "StatementRules2$Code" "arguments" "[I", .fieldLink RX0 18 "StatementRules2$Code" "targets" "[I", .fieldLink RX0 21 "StatementRules2$Code" "caseValues" "[I", .fieldLink RX0 24 "StatementRules2$Code" "caseTargets" "[I"]
def wzX0_init : List Cond := .code yX0_init cX0_init 1 none :: (woX0_init ++ (wsX00 ++ []))
theorem wgX0_init : ∀ w ∈ wzX0_init, goodWord w = true := zg_cons rfl (zg_app (zg_lit (by decide +kernel)) (zg_app wgcX0 zg_nil))
def woX10_init : List Cond := [.methodLink RX10 3 objectInit, .instanceMethod objectInit, .code objectInit ⟨#[0xb1]⟩ 1 none, .arrayClass .int, .fieldLink RX10 9 "StatementRules2$Told" "above" "[I", .fieldLink RX10 15 "StatementRules2$Told" "isNull" "[I", .fieldLink RX10 18 "StatementRules2$Told" "opening" "[I", .fieldLink RX10 21 "StatementRules2$Told" "closing" "[I", .fieldLink RX10 24 "StatementRules2$Told" "kindCount" "I"]
def wzX10_init : List Cond := .code yX10_init cX10_init 2 none :: (woX10_init ++ (wsX100 ++ []))
theorem wgX10_init : ∀ w ∈ wzX10_init, goodWord w = true := zg_cons rfl (zg_app (zg_lit (by decide +kernel)) (zg_app wgcX10 zg_nil))
def woX1_init : List Cond := [.methodLink RX1 3 objectInit, .instanceMethod objectInit, .code objectInit ⟨#[0xb1]⟩ 1 none, .classLink RX1 9 RX4, .instantiable RX4 4, .initialized RX4, .instanceMethod yX4_init, .fieldLink RX1 12 "StatementRules2$Formulas" "names" "LStatementRules2$Names;", .fieldLink RX1 18 "StatementRules2$Formulas" "tokens" "LStatementRules2$Tokens;", .fieldLink RX1 22 "StatementRules2$Formulas" "code" "LStatementRules2$Code;", .fieldLink RX1 26 "StatementRules2$Formulas" "told" "LStatementRules2$Told;"]
def wzX1_init : List Cond := .code yX1_init cX1_init 4 none :: (woX1_init ++ (wsX40 ++ (wsX70 ++ (wzX4_init ++ []))))
theorem wgX1_init : ∀ w ∈ wzX1_init, goodWord w = true := zg_cons rfl (zg_app (zg_lit (by decide +kernel)) (zg_app wgcX4 (zg_app wgcX7 (zg_app wgX4_init zg_nil))))
def woX7_init : List Cond := [.initialized RX1, .methodLink RX7 3 yX1_init, .instanceMethod yX1_init, .classLink RX7 9 RX6, .instantiable RX6 6, .initialized RX6, .instanceMethod yX6_init, .fieldLink RX7 14 "StatementRules2$Statements" "opens" "LStatementRules2$Opens;"]
def wzX7_init : List Cond := .code yX7_init cX7_init 4 none :: (woX7_init ++ (wsX60 ++ (wsX70 ++ (wzX1_init ++ (wzX6_init ++ [])))))
theorem wgX7_init : ∀ w ∈ wzX7_init, goodWord w = true := zg_cons rfl (zg_app (zg_lit (by decide +kernel)) (zg_app wgcX6 (zg_app wgcX7 (zg_app wgX1_init (zg_app wgX6_init zg_nil)))))
def woX3_init : List Cond := [.methodLink RX3 3 objectInit, .instanceMethod objectInit, .code objectInit ⟨#[0xb1]⟩ 1 none, .arrayClass .int, .fieldLink RX3 9 "StatementRules2$Machine" "cells" "[I", .fieldLink RX3 15 "StatementRules2$Machine" "values" "[I", .classLink RX3 18 RX2, .fieldLink RX3 20 "StatementRules2$Machine" "frames" "[LStatementRules2$Frame;", .classLink RX3 24 RX8, .fieldLink RX3 26 "StatementRules2$Machine" "pool" "[LStatementRules2$Thrown;", .fieldLink RX3 30 "StatementRules2$Machine" "opened" "[I", .fieldLink RX3 33 "StatementRules2$Machine" "rows" "[I", .fieldLink RX3 36 "StatementRules2$Machine" "told" "LStatementRules2$Told;", .fieldLink RX3 40 "StatementRules2$Machine" "code" "LStatementRules2$Code;"]
def wzX3_init : List Cond := .code yX3_init cX3_init 3 none :: (woX3_init ++ (wsX30 ++ []))
theorem wgX3_init : ∀ w ∈ wzX3_init, goodWord w = true := zg_cons rfl (zg_app (zg_lit (by decide +kernel)) (zg_app wgcX3 zg_nil))
def woX12_init : List Cond := [.methodLink RX12 1 objectInit, .instanceMethod objectInit, .code objectInit ⟨#[0xb1]⟩ 1 none, .arrayClass .int, .fieldLink RX12 7 "StatementRules2Model" "tape" "[I", .fieldLink RX12 13 "StatementRules2Model" "kinds" "I", .fieldLink RX12 17 "StatementRules2Model" "above" "[I", .arrayClass .boolean, .fieldLink RX12 20 "StatementRules2Model" "isNull" "[Z", .fieldLink RX12 24 "StatementRules2Model" "opening" "[I", .fieldLink RX12 27 "StatementRules2Model" "closing" "[I", .arrayClass .long, .constantLong RX12 30 (6909556), .constantLong RX12 32 (7758194), .constantLong RX12 34 (7106407), .constantLong RX12 36 (26982), .constantLong RX12 38 (1701606245), .constantLong RX12 40 (512852847717), .constantLong RX12 42 (25711), .constantLong RX12 44 (6713202), .constantLong RX12 46 (422826041707), .constantLong RX12 48 (7165066978433856869), .constantLong RX12 50 (125780071117422), .constantLong RX12 52 (499968536439), .constantLong RX12 54 (1819239275), .constantLong RX12 56 (7631481), .constantLong RX12 58 (2003399784), .constantLong RX12 60 (426836779880), .constantLong RX12 62 (28826370426301561), .constantLong RX12 64 (107148485161588), .constantLong RX12 66 (126956707537768), .constantLong RX12 68 (1667330917), .constantLong RX12 70 (28258988067220596), .constantLong RX12 72 (521459297380), .constantLong RX12 74 (1953658213), .constantLong RX12 76 (439721161573), .constantLong RX12 78 (1853189228), .fieldLink RX12 80 "StatementRules2Model" "words" "[J", .fieldLink RX12 84 "StatementRules2Model" "op" "[I", .fieldLink RX12 87 "StatementRules2Model" "ix" "[I", .fieldLink RX12 90 "StatementRules2Model" "iy" "[I", .fieldLink RX12 93 "StatementRules2Model" "entryValue" "[I", .fieldLink RX12 96 "StatementRules2Model" "entryAt" "[I", .fieldLink RX12 99 "StatementRules2Model" "entryNext" "[I", .fieldLink RX12 102 "StatementRules2Model" "entryElse" "[Z", .fieldLink RX12 105 "StatementRules2Model" "tryCatch" "[I", .fieldLink RX12 108 "StatementRules2Model" "tryFinal" "[I", .fieldLink RX12 111 "StatementRules2Model" "tryEnd" "[I", .fieldLink RX12 114 "StatementRules2Model" "catchKind" "[I", .fieldLink RX12 117 "StatementRules2Model" "catchAt" "[I", .fieldLink RX12 120 "StatementRules2Model" "catchSlot" "[I", .fieldLink RX12 123 "StatementRules2Model" "catchNext" "[I", .fieldLink RX12 126 "StatementRules2Model" "seenName" "[J", .fieldLink RX12 129 "StatementRules2Model" "seenSlot" "[I", .fieldLink RX12 132 "StatementRules2Model" "seenCaught" "[Z", .fieldLink RX12 135 "StatementRules2Model" "goalSort" "[I", .fieldLink RX12 138 "StatementRules2Model" "goalName" "[J", .fieldLink RX12 141 "StatementRules2Model" "goalLoop" "[I", .fieldLink RX12 144 "StatementRules2Model" "goalDepth" "[I", .fieldLink RX12 147 "StatementRules2Model" "breaks" "[I", .fieldLink RX12 150 "StatementRules2Model" "continues" "[I", .fieldLink RX12 153 "StatementRules2Model" "broken" "[Z", .fieldLink RX12 156 "StatementRules2Model" "continued" "[Z", .fieldLink RX12 159 "StatementRules2Model" "wallTry" "[I", .fieldLink RX12 162 "StatementRules2Model" "wallGoals" "[I", .fieldLink RX12 165 "StatementRules2Model" "pendGoal" "[I", .fieldLink RX12 168 "StatementRules2Model" "pendBreak" "[Z", .fieldLink RX12 171 "StatementRules2Model" "pendTry" "[I", .fieldLink RX12 174 "StatementRules2Model" "fk" "[I", .fieldLink RX12 177 "StatementRules2Model" "fs" "[I", .fieldLink RX12 180 "StatementRules2Model" "fp" "[I", .fieldLink RX12 183 "StatementRules2Model" "fq" "[I", .fieldLink RX12 186 "StatementRules2Model" "fr" "[I", .fieldLink RX12 189 "StatementRules2Model" "fv" "[I", .fieldLink RX12 192 "StatementRules2Model" "fw" "[I", .fieldLink RX12 195 "StatementRules2Model" "fx" "[I", .fieldLink RX12 198 "StatementRules2Model" "fy" "[I", .fieldLink RX12 201 "StatementRules2Model" "fz" "[I", .fieldLink RX12 204 "StatementRules2Model" "fn" "[J", .fieldLink RX12 207 "StatementRules2Model" "rowSort" "[I", .fieldLink RX12 210 "StatementRules2Model" "rowNumber" "[I", .fieldLink RX12 213 "StatementRules2Model" "vals" "[I", .fieldLink RX12 216 "StatementRules2Model" "thingKind" "[I", .fieldLink RX12 219 "StatementRules2Model" "thingNumber" "[I", .fieldLink RX12 222 "StatementRules2Model" "suppressedMany" "[I", .fieldLink RX12 225 "StatementRules2Model" "suppressedKind" "[I", .fieldLink RX12 228 "StatementRules2Model" "suppressedNumber" "[I", .fieldLink RX12 231 "StatementRules2Model" "held" "[I", .fieldLink RX12 234 "StatementRules2Model" "vs" "[I", .fieldLink RX12 237 "StatementRules2Model" "openOf" "[I", .fieldLink RX12 240 "StatementRules2Model" "waits" "[I", .fieldLink RX12 243 "StatementRules2Model" "rk" "[I", .fieldLink RX12 246 "StatementRules2Model" "ra" "[I", .fieldLink RX12 249 "StatementRules2Model" "rb" "[I", .fieldLink RX12 252 "StatementRules2Model" "rc" "[I", .fieldLink RX12 255 "StatementRules2Model" "rHigh" "[I", .fieldLink RX12 258 "StatementRules2Model" "rHow" "[I", .fieldLink RX12 261 "StatementRules2Model" "rTo" "[I", .fieldLink RX12 264 "StatementRules2Model" "rDepth" "[I", .fieldLink RX12 267 "StatementRules2Model" "rValue" "[I", .fieldLink RX12 270 "StatementRules2Model" "rThing" "[I"]
def wzX12_init : List Cond := .code yX12_init cX12_init 1 none :: (woX12_init ++ (wsX120 ++ []))
theorem wgX12_init : ∀ w ∈ wzX12_init, goodWord w = true := zg_cons rfl (zg_app (zg_lit (by decide +kernel)) (zg_app wgcX12 zg_nil))
theorem hX10_addKind_X11_put_n28 : GoodIn wzX10_addKind wzX11_put := (zg_of (fun _ h => List.mem_cons_of_mem _ (List.mem_append_right _ (List.mem_append_right _ (List.mem_append_left _ (h))))) wgX11_put)
set_option maxRecDepth 20000 in
theorem hX11_kind_X10_isKind_v62 : GoodIn wzX11_kind (wsV RX11 62 RX10 yX10_isKind wzX10_isKind) := goodIn_app (goodIn_r _ [2, 3, 4, 5] rfl (by decide +kernel)) (zg_of (fun _ h => List.mem_cons_of_mem _ (List.mem_append_right _ (List.mem_append_right _ (List.mem_append_left _ (h))))) wgX10_isKind)
set_option maxRecDepth 20000 in
theorem hX11_kind_X10_isFull_v66 : GoodIn wzX11_kind (wsV RX11 66 RX10 yX10_isFull wzX10_isFull) := goodIn_app (goodIn_r _ [6, 7, 8, 5] rfl (by decide +kernel)) (zg_of (fun _ h => List.mem_cons_of_mem _ (List.mem_append_right _ (List.mem_append_right _ (List.mem_append_right _ (List.mem_append_left _ (h)))))) wgX10_isFull)
set_option maxRecDepth 20000 in
theorem hX11_kind_X10_addKind_v70 : GoodIn wzX11_kind (wsV RX11 70 RX10 yX10_addKind wzX10_addKind) := goodIn_app (goodIn_r _ [9, 10, 11, 5] rfl (by decide +kernel)) (zg_of (fun _ h => List.mem_cons_of_mem _ (List.mem_append_right _ (List.mem_append_right _ (List.mem_append_right _ (List.mem_append_right _ (List.mem_append_left _ (h))))))) wgX10_addKind)
set_option maxRecDepth 20000 in
theorem hX11_isKindOrNothing_X10_isKind_v62 : GoodIn wzX11_isKindOrNothing (wsV RX11 62 RX10 yX10_isKind wzX10_isKind) := goodIn_app (goodIn_r _ [2, 3, 4, 5] rfl (by decide +kernel)) (zg_of (fun _ h => List.mem_cons_of_mem _ (List.mem_append_right _ (List.mem_append_right _ (List.mem_append_left _ (h))))) wgX10_isKind)
theorem hX10_tellResource_X11_put_n28 : GoodIn wzX10_tellResource wzX11_put := (zg_of (fun _ h => List.mem_cons_of_mem _ (List.mem_append_right _ (List.mem_append_right _ (List.mem_append_left _ (h))))) wgX11_put)
set_option maxRecDepth 20000 in
theorem hX11_resource_X11_isKindOrNothing_v74 : GoodIn wzX11_resource (wsV RX11 74 RX11 yX11_isKindOrNothing wzX11_isKindOrNothing) := goodIn_app (goodIn_r _ [2, 3, 4, 5] rfl (by decide +kernel)) (zg_of (fun _ h => List.mem_cons_of_mem _ (List.mem_append_right _ (List.mem_append_right _ (List.mem_append_left _ (h))))) wgX11_isKindOrNothing)
set_option maxRecDepth 20000 in
theorem hX11_resource_X10_tellResource_v77 : GoodIn wzX11_resource (wsV RX11 77 RX10 yX10_tellResource wzX10_tellResource) := goodIn_app (goodIn_r _ [6, 7, 8, 9] rfl (by decide +kernel)) (zg_of (fun _ h => List.mem_cons_of_mem _ (List.mem_append_right _ (List.mem_append_right _ (List.mem_append_right _ (List.mem_append_left _ (h)))))) wgX10_tellResource)
theorem hX10_isUnder_X11_at_n32 : GoodIn wzX10_isUnder wzX11_at := (zg_of (fun _ h => List.mem_cons_of_mem _ (List.mem_append_right _ (List.mem_append_right _ (List.mem_append_left _ (h))))) wgX11_at)
set_option maxRecDepth 20000 in
theorem hX11_under_X10_isKind_v62 : GoodIn wzX11_under (wsV RX11 62 RX10 yX10_isKind wzX10_isKind) := goodIn_app (goodIn_r _ [2, 3, 4, 5] rfl (by decide +kernel)) (zg_of (fun _ h => List.mem_cons_of_mem _ (List.mem_append_right _ (List.mem_append_right _ (List.mem_append_left _ (h))))) wgX10_isKind)
set_option maxRecDepth 20000 in
theorem hX11_under_X10_isUnder_v144 : GoodIn wzX11_under (wsV RX11 144 RX10 yX10_isUnder wzX10_isUnder) := goodIn_app (goodIn_r _ [6, 7, 8, 5] rfl (by decide +kernel)) (zg_of (fun _ h => List.mem_cons_of_mem _ (List.mem_append_right _ (List.mem_append_right _ (List.mem_append_right _ (List.mem_append_left _ (h)))))) wgX10_isUnder)
set_option maxRecDepth 20000 in
theorem hX11_addBytes_X11_put_s58 : GoodIn wzX11_addBytes (va_wsS RX11 58 yX11_put wzX11_put) := goodIn_app (goodIn_r _ [3, 4, 5] rfl (by decide +kernel)) (zg_of (fun _ h => List.mem_cons_of_mem _ (List.mem_append_right _ (List.mem_append_right _ (List.mem_append_left _ (h))))) wgX11_put)
set_option maxRecDepth 20000 in
theorem hX11_feed_X11_addBytes_v54 : GoodIn wzX11_feed (wsV RX11 54 RX11 yX11_addBytes wzX11_addBytes) := goodIn_app (goodIn_r _ [2, 3, 4, 5] rfl (by decide +kernel)) (zg_of (fun _ h => List.mem_cons_of_mem _ (List.mem_append_right _ (List.mem_append_right _ (List.mem_append_left _ (h))))) wgX11_addBytes)
theorem hX0_add_X11_put_n53 : GoodIn wzX0_add wzX11_put := (zg_of (fun _ h => List.mem_cons_of_mem _ (List.mem_append_right _ (List.mem_append_right _ (List.mem_append_left _ (h))))) wgX11_put)
set_option maxRecDepth 20000 in
theorem hX9_advance_X9_byteAt_v43 : GoodIn wzX9_advance (wsV RX9 43 RX9 yX9_byteAt wzX9_byteAt) := goodIn_app (goodIn_r _ [5, 6, 7, 8] rfl (by decide +kernel)) (zg_of (fun _ h => List.mem_cons_of_mem _ (List.mem_append_right _ (List.mem_append_right _ (List.mem_append_left _ (h))))) wgX9_byteAt)
set_option maxRecDepth 20000 in
theorem hX9_start_X9_advance_v37 : GoodIn wzX9_start (wsV RX9 37 RX9 yX9_advance wzX9_advance) := goodIn_app (goodIn_r _ [3, 4, 5, 6] rfl (by decide +kernel)) (zg_of (fun _ h => List.mem_cons_of_mem _ (List.mem_append_right _ (List.mem_append_right _ (List.mem_append_left _ (h))))) wgX9_advance)
theorem hX6_push_X5_init_n40 : GoodIn wzX6_push wzX5_init := (zg_of (fun _ h => List.mem_cons_of_mem _ (List.mem_append_right _ (List.mem_append_right _ (List.mem_append_right _ (List.mem_append_left _ (h)))))) wgX5_init)
set_option maxRecDepth 20000 in
theorem hX5_hasOneBody_X5_isLoop_v15 : GoodIn wzX5_hasOneBody (wsV RX5 15 RX5 yX5_isLoop wzX5_isLoop) := goodIn_app (goodIn_r _ [2, 3, 4, 5] rfl (by decide +kernel)) (zg_of (fun _ h => List.mem_cons_of_mem _ (List.mem_append_right _ (List.mem_append_right _ (List.mem_append_left _ (h))))) wgX5_isLoop)
set_option maxRecDepth 20000 in
theorem hX1_expect_X1_found_u42 : GoodIn wzX1_expect (va_wsU RX1 42 RX7 "StatementRules2$Formulas" ⟨"StatementRules2$Formulas", "found", "(I)Z"⟩ yX1_found wzX1_found) := goodIn_app (goodIn_r _ [2, 3, 4, 5, 6] rfl (by decide +kernel)) (zg_of (fun _ h => List.mem_cons_of_mem _ (List.mem_append_right _ (List.mem_append_right _ (List.mem_append_left _ (h))))) wgX1_found)
set_option maxRecDepth 20000 in
theorem hX1_expect_X9_advance_v56 : GoodIn wzX1_expect (wsV RX1 56 RX9 yX9_advance wzX9_advance) := goodIn_app (goodIn_r _ [7, 8, 9, 10] rfl (by decide +kernel)) (zg_of (fun _ h => List.mem_cons_of_mem _ (List.mem_append_right _ (List.mem_append_right _ (List.mem_append_right _ (List.mem_append_left _ (h)))))) wgX9_advance)
set_option maxRecDepth 20000 in
theorem hX7_endList_X1_expect_u155 : GoodIn wzX7_endList (va_wsU RX7 155 RX7 "StatementRules2$Formulas" ⟨"StatementRules2$Statements", "expect", "(I)V"⟩ yX1_expect wzX1_expect) := goodIn_app (goodIn_r _ [5, 6, 7, 8, 9] rfl (by decide +kernel)) (zg_of (fun _ h => List.mem_cons_of_mem _ (List.mem_append_right _ (List.mem_append_right _ (List.mem_append_right _ (List.mem_append_right _ (List.mem_append_left _ (h))))))) wgX1_expect)
set_option maxRecDepth 20000 in
theorem hX7_endList_X0_add_v176 : GoodIn wzX7_endList (wsV RX7 176 RX0 yX0_add wzX0_add) := goodIn_app (goodIn_r _ [10, 11, 12, 13] rfl (by decide +kernel)) (zg_of (fun _ h => List.mem_cons_of_mem _ (List.mem_append_right _ (List.mem_append_right _ (List.mem_append_right _ (List.mem_append_right _ (List.mem_append_right _ (List.mem_append_left _ (h)))))))) wgX0_add)
set_option maxRecDepth 20000 in
theorem hX7_endList_X6_pop_v369 : GoodIn wzX7_endList (wsV RX7 369 RX6 yX6_pop wzX6_pop) := goodIn_app (goodIn_r _ [14, 15, 16, 17] rfl (by decide +kernel)) (zg_of (fun _ h => List.mem_cons_of_mem _ (List.mem_append_right _ (List.mem_append_right _ (List.mem_append_right _ (List.mem_append_right _ (List.mem_append_right _ (List.mem_append_right _ (List.mem_append_left _ (h))))))))) wgX6_pop)
set_option maxRecDepth 20000 in
theorem hX7_turns_X6_row_v93 : GoodIn wzX7_turns (wsV RX7 93 RX6 yX6_row wzX6_row) := goodIn_app (goodIn_r _ [4, 5, 6, 7] rfl (by decide +kernel)) (zg_of (fun _ h => List.mem_cons_of_mem _ (List.mem_append_right _ (List.mem_append_right _ (List.mem_append_right _ (List.mem_append_right _ (List.mem_append_left _ (h))))))) wgX6_row)
set_option maxRecDepth 20000 in
theorem hX7_turns_X5_hasOneBody_v97 : GoodIn wzX7_turns (wsV RX7 97 RX5 yX5_hasOneBody wzX5_hasOneBody) := goodIn_app (goodIn_r _ [8, 9, 10, 11] rfl (by decide +kernel)) (zg_of (fun _ h => List.mem_cons_of_mem _ (List.mem_append_right _ (List.mem_append_right _ (List.mem_append_right _ (List.mem_append_right _ (List.mem_append_right _ (List.mem_append_left _ (h)))))))) wgX5_hasOneBody)
set_option maxRecDepth 20000 in
theorem hX7_turns_X1_found_u110 : GoodIn wzX7_turns (va_wsU RX7 110 RX7 "StatementRules2$Formulas" ⟨"StatementRules2$Statements", "found", "(I)Z"⟩ yX1_found wzX1_found) := goodIn_app (goodIn_r _ [12, 13, 14, 15, 16] rfl (by decide +kernel)) (zg_of (fun _ h => List.mem_cons_of_mem _ (List.mem_append_right _ (List.mem_append_right _ (List.mem_append_right _ (List.mem_append_right _ (List.mem_append_right _ (List.mem_append_right _ (List.mem_append_left _ (h))))))))) wgX1_found)
set_option maxRecDepth 20000 in
theorem hX7_turns_X7_endList_v120 : GoodIn wzX7_turns (wsV RX7 120 RX7 yX7_endList wzX7_endList) := goodIn_app (goodIn_r _ [17, 18, 19, 20] rfl (by decide +kernel)) (zg_of (fun _ h => List.mem_cons_of_mem _ (List.mem_append_right _ (List.mem_append_right _ (List.mem_append_right _ (List.mem_append_right _ (List.mem_append_right _ (List.mem_append_right _ (List.mem_append_right _ (List.mem_append_left _ (h)))))))))) wgX7_endList)
set_option maxRecDepth 20000 in
theorem hX7_translate_X0_clear_v24 : GoodIn wzX7_translate (wsV RX7 24 RX0 yX0_clear wzX0_clear) := goodIn_app (goodIn_r _ [19, 20, 21, 22] rfl (by decide +kernel)) (zg_of (fun _ h => List.mem_cons_of_mem _ (List.mem_append_right _ (List.mem_append_right _ (List.mem_append_right _ (List.mem_append_left _ (h)))))) wgX0_clear)
set_option maxRecDepth 20000 in
theorem hX7_translate_X0_newCells_v41 : GoodIn wzX7_translate (wsV RX7 41 RX0 yX0_newCells wzX0_newCells) := goodIn_app (goodIn_r _ [23, 24, 25, 22] rfl (by decide +kernel)) (zg_of (fun _ h => List.mem_cons_of_mem _ (List.mem_append_right _ (List.mem_append_right _ (List.mem_append_right _ (List.mem_append_right _ (List.mem_append_left _ (h))))))) wgX0_newCells)
set_option maxRecDepth 20000 in
theorem hX7_translate_X4_add_v45 : GoodIn wzX7_translate (wsV RX7 45 RX4 yX4_add wzX4_add) := goodIn_app (goodIn_r _ [26, 27, 28, 29] rfl (by decide +kernel)) (zg_of (fun _ h => List.mem_cons_of_mem _ (List.mem_append_right _ (List.mem_append_right _ (List.mem_append_right _ (List.mem_append_right _ (List.mem_append_right _ (List.mem_append_left _ (h)))))))) wgX4_add)
set_option maxRecDepth 20000 in
theorem hX7_translate_X6_clear_v51 : GoodIn wzX7_translate (wsV RX7 51 RX6 yX6_clear wzX6_clear) := goodIn_app (goodIn_r _ [30, 31, 32, 33] rfl (by decide +kernel)) (zg_of (fun _ h => List.mem_cons_of_mem _ (List.mem_append_right _ (List.mem_append_right _ (List.mem_append_right _ (List.mem_append_right _ (List.mem_append_right _ (List.mem_append_right _ (List.mem_append_left _ (h))))))))) wgX6_clear)
set_option maxRecDepth 20000 in
theorem hX7_translate_X9_start_v75 : GoodIn wzX7_translate (wsV RX7 75 RX9 yX9_start wzX9_start) := goodIn_app (goodIn_r _ [34, 35, 36, 37] rfl (by decide +kernel)) (zg_of (fun _ h => List.mem_cons_of_mem _ (List.mem_append_right _ (List.mem_append_right _ (List.mem_append_right _ (List.mem_append_right _ (List.mem_append_right _ (List.mem_append_right _ (List.mem_append_right _ (List.mem_append_left _ (h)))))))))) wgX9_start)
set_option maxRecDepth 20000 in
theorem hX7_translate_X6_push_v81 : GoodIn wzX7_translate (wsV RX7 81 RX6 yX6_push wzX6_push) := goodIn_app (goodIn_r _ [38, 39, 40, 33] rfl (by decide +kernel)) (zg_of (fun _ h => List.mem_cons_of_mem _ (List.mem_append_right _ (List.mem_append_right _ (List.mem_append_right _ (List.mem_append_right _ (List.mem_append_right _ (List.mem_append_right _ (List.mem_append_right _ (List.mem_append_right _ (List.mem_append_left _ (h))))))))))) wgX6_push)
set_option maxRecDepth 20000 in
theorem hX7_translate_X7_turns_v85 : GoodIn wzX7_translate (wsV RX7 85 RX7 yX7_turns wzX7_turns) := goodIn_app (goodIn_r _ [41, 42, 43, 44] rfl (by decide +kernel)) (zg_of (fun _ h => List.mem_cons_of_mem _ (List.mem_append_right _ (List.mem_append_right _ (List.mem_append_right _ (List.mem_append_right _ (List.mem_append_right _ (List.mem_append_right _ (List.mem_append_right _ (List.mem_append_right _ (List.mem_append_right _ (List.mem_append_left _ (h)))))))))))) wgX7_turns)
set_option maxRecDepth 20000 in
theorem hX11_read_X7_translate_v88 : GoodIn wzX11_read (wsV RX11 88 RX7 yX7_translate wzX7_translate) := goodIn_app (goodIn_r _ [7, 8, 9, 10] rfl (by decide +kernel)) (zg_of (fun _ h => List.mem_cons_of_mem _ (List.mem_append_right _ (List.mem_append_right _ (List.mem_append_right _ (List.mem_append_left _ (h)))))) wgX7_translate)
set_option maxRecDepth 20000 in
theorem hX12_cut_X12_in_s279 : GoodIn wzX12_cut (va_wsS RX12 279 yX12_in wzX12_in) := goodIn_app (goodIn_r _ [3, 4, 5] rfl (by decide +kernel)) (zg_of (fun _ h => List.mem_cons_of_mem _ (List.mem_append_right _ (List.mem_append_right _ (List.mem_append_left _ (h))))) wgX12_in)
set_option maxRecDepth 20000 in
theorem hX12_program_X12_in_s279 : GoodIn wzX12_program (va_wsS RX12 279 yX12_in wzX12_in) := goodIn_app (goodIn_r _ [3, 4, 5] rfl (by decide +kernel)) (zg_of (fun _ h => List.mem_cons_of_mem _ (List.mem_append_right _ (List.mem_append_right _ (List.mem_append_left _ (h))))) wgX12_in)
set_option maxRecDepth 20000 in
theorem hX12_ran_X12_in_s279 : GoodIn wzX12_ran (va_wsS RX12 279 yX12_in wzX12_in) := goodIn_app (goodIn_r _ [3, 4, 5] rfl (by decide +kernel)) (zg_of (fun _ h => List.mem_cons_of_mem _ (List.mem_append_right _ (List.mem_append_right _ (List.mem_append_left _ (h))))) wgX12_in)
set_option maxRecDepth 20000 in
theorem hX12_kind_X12_in_s279 : GoodIn wzX12_kind (va_wsS RX12 279 yX12_in wzX12_in) := goodIn_app (goodIn_r _ [4, 5, 6] rfl (by decide +kernel)) (zg_of (fun _ h => List.mem_cons_of_mem _ (List.mem_append_right _ (List.mem_append_right _ (List.mem_append_left _ (h))))) wgX12_in)
set_option maxRecDepth 20000 in
theorem hX12_under_X12_in_s279 : GoodIn wzX12_under (va_wsS RX12 279 yX12_in wzX12_in) := goodIn_app (goodIn_r _ [3, 4, 5] rfl (by decide +kernel)) (zg_of (fun _ h => List.mem_cons_of_mem _ (List.mem_append_right _ (List.mem_append_right _ (List.mem_append_left _ (h))))) wgX12_in)
set_option maxRecDepth 20000 in
theorem hX12_under_X12_isUnder_v283 : GoodIn wzX12_under (wsV RX12 283 RX12 yX12_isUnder wzX12_isUnder) := goodIn_app (goodIn_r _ [6, 7, 8, 5] rfl (by decide +kernel)) (zg_of (fun _ h => List.mem_cons_of_mem _ (List.mem_append_right _ (List.mem_append_right _ (List.mem_append_right _ (List.mem_append_left _ (h)))))) wgX12_isUnder)
set_option maxRecDepth 20000 in
theorem hX12_resource_X12_in_s279 : GoodIn wzX12_resource (va_wsS RX12 279 yX12_in wzX12_in) := goodIn_app (goodIn_r _ [6, 7, 8] rfl (by decide +kernel)) (zg_of (fun _ h => List.mem_cons_of_mem _ (List.mem_append_right _ (List.mem_append_right _ (List.mem_append_left _ (h))))) wgX12_in)
set_option maxRecDepth 20000 in
theorem hX12_next_X12_at_v300 : GoodIn wzX12_next (wsV RX12 300 RX12 yX12_at wzX12_at) := goodIn_app (goodIn_r _ [7, 8, 9, 10] rfl (by decide +kernel)) (zg_of (fun _ h => List.mem_cons_of_mem _ (List.mem_append_right _ (List.mem_append_right _ (List.mem_append_left _ (h))))) wgX12_at)
set_option maxRecDepth 20000 in
theorem hX12_list_X12_over_v490 : GoodIn wzX12_list (wsV RX12 490 RX12 yX12_over wzX12_over) := goodIn_app (goodIn_r _ [4, 5, 6, 7] rfl (by decide +kernel)) (zg_of (fun _ h => List.mem_cons_of_mem _ (List.mem_append_right _ (List.mem_append_right _ (List.mem_append_left _ (h))))) wgX12_over)
set_option maxRecDepth 20000 in
theorem hX12_parse_X12_push_v390 : GoodIn wzX12_parse (wsV RX12 390 RX12 yX12_push wzX12_push) := goodIn_app (goodIn_r _ [4, 5, 6, 7] rfl (by decide +kernel)) (zg_of (fun _ h => List.mem_cons_of_mem _ (List.mem_append_right _ (List.mem_append_right _ (List.mem_append_left _ (h))))) wgX12_push)
set_option maxRecDepth 20000 in
theorem hX12_parse_X12_list_v399 : GoodIn wzX12_parse (wsV RX12 399 RX12 yX12_list wzX12_list) := goodIn_app (goodIn_r _ [8, 9, 10, 7] rfl (by decide +kernel)) (zg_of (fun _ h => List.mem_cons_of_mem _ (List.mem_append_right _ (List.mem_append_right _ (List.mem_append_right _ (List.mem_append_left _ (h)))))) wgX12_list)
set_option maxRecDepth 20000 in
theorem hX12_read_X12_see_v506 : GoodIn wzX12_read (wsV RX12 506 RX12 yX12_see wzX12_see) := goodIn_app (goodIn_r _ [30, 31, 32, 33] rfl (by decide +kernel)) (zg_of (fun _ h => List.mem_cons_of_mem _ (List.mem_append_right _ (List.mem_append_right _ (List.mem_append_left _ (h))))) wgX12_see)
set_option maxRecDepth 20000 in
theorem hX12_read_X12_next_v345 : GoodIn wzX12_read (wsV RX12 345 RX12 yX12_next wzX12_next) := goodIn_app (goodIn_r _ [34, 35, 36, 33] rfl (by decide +kernel)) (zg_of (fun _ h => List.mem_cons_of_mem _ (List.mem_append_right _ (List.mem_append_right _ (List.mem_append_right _ (List.mem_append_left _ (h)))))) wgX12_next)
set_option maxRecDepth 20000 in
theorem hX12_read_X12_parse_v568 : GoodIn wzX12_read (wsV RX12 568 RX12 yX12_parse wzX12_parse) := goodIn_app (goodIn_r _ [37, 38, 39, 33] rfl (by decide +kernel)) (zg_of (fun _ h => List.mem_cons_of_mem _ (List.mem_append_right _ (List.mem_append_right _ (List.mem_append_right _ (List.mem_append_right _ (List.mem_append_left _ (h))))))) wgX12_parse)
set_option maxRecDepth 20000 in
theorem hX12_read_X12_can_v341 : GoodIn wzX12_read (wsV RX12 341 RX12 yX12_can wzX12_can) := goodIn_app (goodIn_r _ [40, 41, 42, 33] rfl (by decide +kernel)) (zg_of (fun _ h => List.mem_cons_of_mem _ (List.mem_append_right _ (List.mem_append_right _ (List.mem_append_right _ (List.mem_append_right _ (List.mem_append_right _ (List.mem_append_left _ (h)))))))) wgX12_can)
theorem hX1_init_X4_init_n11 : GoodIn wzX1_init wzX4_init := (zg_of (fun _ h => List.mem_cons_of_mem _ (List.mem_append_right _ (List.mem_append_right _ (List.mem_append_right _ (List.mem_append_left _ (h)))))) wgX4_init)
theorem hX7_init_X1_init_i3 : GoodIn wzX7_init wzX1_init := (zg_of (fun _ h => List.mem_cons_of_mem _ (List.mem_append_right _ (List.mem_append_right _ (List.mem_append_right _ (List.mem_append_left _ (h)))))) wgX1_init)
theorem hX7_init_X6_init_n11 : GoodIn wzX7_init wzX6_init := (zg_of (fun _ h => List.mem_cons_of_mem _ (List.mem_append_right _ (List.mem_append_right _ (List.mem_append_right _ (List.mem_append_right _ (List.mem_append_left _ (h))))))) wgX6_init)
end
section
/-- the words of links between nest mates -/
def zNW : List Cond := [
  .methodLinkNest "StatementRules2" 22 ⟨"StatementRules2$Code", "<init>", "()V"⟩ "StatementRules2",
  .methodLinkNest "StatementRules2$Formulas" 11 ⟨"StatementRules2$Names", "<init>", "()V"⟩ "StatementRules2",
  .methodLinkNest "StatementRules2$Statements" 11 ⟨"StatementRules2$Opens", "<init>", "()V"⟩ "StatementRules2",
  .methodLinkNest "StatementRules2$Told" 28 ⟨"StatementRules2", "put", "([III)V"⟩ "StatementRules2",
  .methodLinkNest "StatementRules2$Opens" 40 ⟨"StatementRules2$Open", "<init>", "()V"⟩ "StatementRules2",
  .methodLinkNest "StatementRules2$Code" 53 ⟨"StatementRules2", "put", "([III)V"⟩ "StatementRules2",
  .methodLinkNest "StatementRules2$Opens" 104 ⟨"StatementRules2", "at", "([II)I"⟩ "StatementRules2",
  .methodLinkNest "StatementRules2$Names" 24 ⟨"StatementRules2", "at", "([II)I"⟩ "StatementRules2",
  .methodLinkNest "StatementRules2$Code" 57 ⟨"StatementRules2", "at", "([II)I"⟩ "StatementRules2",
  .methodLinkNest "StatementRules2$Opens" 100 ⟨"StatementRules2", "put", "([III)V"⟩ "StatementRules2",
  .methodLinkNest "StatementRules2$Told" 32 ⟨"StatementRules2", "at", "([II)I"⟩ "StatementRules2",
  .methodLinkNest "StatementRules2$Machine" 50 ⟨"StatementRules2", "put", "([III)V"⟩ "StatementRules2",
  .methodLinkNest "StatementRules2$Machine" 111 ⟨"StatementRules2", "at", "([II)I"⟩ "StatementRules2",
  .methodLinkNest "StatementRules2$Machine" 241 ⟨"StatementRules2$Thrown", "<init>", "()V"⟩ "StatementRules2",
  .methodLinkNest "StatementRules2$Machine" 193 ⟨"StatementRules2$Frame", "<init>", "()V"⟩ "StatementRules2",
  .methodLinkNest "StatementRules2$Thrown" 22 ⟨"StatementRules2", "put", "([III)V"⟩ "StatementRules2",
  .fieldLinkNest "StatementRules2$Machine" 210 "StatementRules2$Told" "isNull" "[I" "StatementRules2",
  .fieldLinkNest "StatementRules2$Machine" 207 "StatementRules2$Told" "opening" "[I" "StatementRules2",
  .fieldLinkNest "StatementRules2$Machine" 265 "StatementRules2$Told" "closing" "[I" "StatementRules2",
  .fieldLinkNest "StatementRules2" 81 "StatementRules2$Told" "assertsOn" "Z" "StatementRules2",
  .fieldLinkNest "StatementRules2$Machine" 166 "StatementRules2$Told" "assertsOn" "Z" "StatementRules2",
  .fieldLinkNest "StatementRules2$Machine" 108 "StatementRules2$Code" "ops" "[I" "StatementRules2",
  .fieldLinkNest "StatementRules2$Machine" 115 "StatementRules2$Code" "arguments" "[I" "StatementRules2",
  .fieldLinkNest "StatementRules2$Machine" 153 "StatementRules2$Code" "targets" "[I" "StatementRules2",
  .fieldLinkNest "StatementRules2$Formulas" 114 "StatementRules2$Code" "caseCount" "I" "StatementRules2",
  .fieldLinkNest "StatementRules2$Statements" 347 "StatementRules2$Code" "caseCount" "I" "StatementRules2",
  .fieldLinkNest "StatementRules2$Machine" 44 "StatementRules2$Code" "cellCount" "I" "StatementRules2",
  .fieldLinkNest "StatementRules2$Statements" 167 "StatementRules2$Code" "statements" "I" "StatementRules2",
  .fieldLinkNest "StatementRules2" 97 "StatementRules2$Code" "statements" "I" "StatementRules2",
  .fieldLinkNest "StatementRules2" 106 "StatementRules2$Code" "toldNames" "I" "StatementRules2",
  .fieldLinkNest "StatementRules2$Statements" 267 "StatementRules2$Code" "toldNames" "I" "StatementRules2",
  .fieldLinkNest "StatementRules2" 109 "StatementRules2$Code" "jumps" "I" "StatementRules2",
  .fieldLinkNest "StatementRules2$Statements" 270 "StatementRules2$Code" "jumps" "I" "StatementRules2",
  .fieldLinkNest "StatementRules2" 103 "StatementRules2$Code" "endReached" "Z" "StatementRules2",
  .fieldLinkNest "StatementRules2$Statements" 372 "StatementRules2$Code" "endReached" "Z" "StatementRules2",
  .fieldLinkNest "StatementRules2$Formulas" 53 "StatementRules2$Tokens" "type" "I" "StatementRules2",
  .fieldLinkNest "StatementRules2$Statements" 214 "StatementRules2$Tokens" "type" "I" "StatementRules2",
  .fieldLinkNest "StatementRules2$Formulas" 46 "StatementRules2$Tokens" "place" "I" "StatementRules2",
  .fieldLinkNest "StatementRules2$Statements" 143 "StatementRules2$Tokens" "place" "I" "StatementRules2",
  .fieldLinkNest "StatementRules2$Formulas" 76 "StatementRules2$Tokens" "value" "I" "StatementRules2",
  .fieldLinkNest "StatementRules2$Statements" 297 "StatementRules2$Tokens" "value" "I" "StatementRules2",
  .fieldLinkNest "StatementRules2$Statements" 181 "StatementRules2$Tokens" "name" "J" "StatementRules2",
  .fieldLinkNest "StatementRules2$Formulas" 98 "StatementRules2$Tokens" "name" "J" "StatementRules2",
  .fieldLinkNest "StatementRules2$Statements" 33 "StatementRules2$Names" "count" "I" "StatementRules2",
  .fieldLinkNest "StatementRules2$Statements" 92 "StatementRules2$Opens" "count" "I" "StatementRules2",
  .fieldLinkNest "StatementRules2$Statements" 401 "StatementRules2$Opens" "jumpCount" "I" "StatementRules2",
  .fieldLinkNest "StatementRules2$Statements" 294 "StatementRules2$Opens" "arm" "I" "StatementRules2",
  .fieldLinkNest "StatementRules2" 122 "StatementRules2$Machine" "rows" "[I" "StatementRules2",
  .fieldLinkNest "StatementRules2" 119 "StatementRules2$Machine" "rowCount" "I" "StatementRules2",
  .fieldLinkNest "StatementRules2$Statements" 107 "StatementRules2$Open" "sort" "I" "StatementRules2",
  .fieldLinkNest "StatementRules2$Opens" 41 "StatementRules2$Open" "sort" "I" "StatementRules2",
  .fieldLinkNest "StatementRules2$Opens" 44 "StatementRules2$Open" "serial" "I" "StatementRules2",
  .fieldLinkNest "StatementRules2$Opens" 47 "StatementRules2$Open" "depth" "I" "StatementRules2",
  .fieldLinkNest "StatementRules2$Statements" 287 "StatementRules2$Open" "depth" "I" "StatementRules2",
  .fieldLinkNest "StatementRules2$Opens" 50 "StatementRules2$Open" "namesBefore" "I" "StatementRules2",
  .fieldLinkNest "StatementRules2$Statements" 338 "StatementRules2$Open" "namesBefore" "I" "StatementRules2",
  .fieldLinkNest "StatementRules2$Opens" 53 "StatementRules2$Open" "label" "J" "StatementRules2",
  .fieldLinkNest "StatementRules2$Statements" 193 "StatementRules2$Open" "label" "J" "StatementRules2",
  .fieldLinkNest "StatementRules2$Opens" 57 "StatementRules2$Open" "begun" "Z" "StatementRules2",
  .fieldLinkNest "StatementRules2$Statements" 130 "StatementRules2$Open" "begun" "Z" "StatementRules2",
  .fieldLinkNest "StatementRules2$Opens" 61 "StatementRules2$Open" "ends" "Z" "StatementRules2",
  .fieldLinkNest "StatementRules2$Statements" 359 "StatementRules2$Open" "ends" "Z" "StatementRules2",
  .fieldLinkNest "StatementRules2$Opens" 64 "StatementRules2$Open" "never" "Z" "StatementRules2",
  .fieldLinkNest "StatementRules2$Statements" 324 "StatementRules2$Open" "never" "Z" "StatementRules2",
  .fieldLinkNest "StatementRules2$Opens" 67 "StatementRules2$Open" "whole" "Z" "StatementRules2",
  .fieldLinkNest "StatementRules2$Statements" 350 "StatementRules2$Open" "whole" "Z" "StatementRules2",
  .fieldLinkNest "StatementRules2$Opens" 70 "StatementRules2$Open" "exit" "I" "StatementRules2",
  .fieldLinkNest "StatementRules2$Statements" 196 "StatementRules2$Open" "exit" "I" "StatementRules2",
  .fieldLinkNest "StatementRules2$Opens" 73 "StatementRules2$Open" "next" "I" "StatementRules2",
  .fieldLinkNest "StatementRules2$Statements" 284 "StatementRules2$Open" "next" "I" "StatementRules2",
  .fieldLinkNest "StatementRules2$Opens" 76 "StatementRules2$Open" "other" "I" "StatementRules2",
  .fieldLinkNest "StatementRules2$Statements" 140 "StatementRules2$Open" "other" "I" "StatementRules2",
  .fieldLinkNest "StatementRules2$Opens" 79 "StatementRules2$Open" "caught" "I" "StatementRules2",
  .fieldLinkNest "StatementRules2$Statements" 394 "StatementRules2$Open" "caught" "I" "StatementRules2",
  .fieldLinkNest "StatementRules2$Statements" 149 "StatementRules2$Open" "firstCase" "I" "StatementRules2",
  .fieldLinkNest "StatementRules2$Opens" 82 "StatementRules2$Open" "firstJump" "I" "StatementRules2",
  .fieldLinkNest "StatementRules2$Statements" 407 "StatementRules2$Open" "firstJump" "I" "StatementRules2",
  .fieldLinkNest "StatementRules2$Statements" 404 "StatementRules2$Open" "finallyJump" "I" "StatementRules2",
  .fieldLinkNest "StatementRules2$Statements" 413 "StatementRules2$Open" "outerArm" "I" "StatementRules2",
  .fieldLinkNest "StatementRules2" 138 "StatementRules2$Thrown" "kinds" "[I" "StatementRules2",
  .fieldLinkNest "StatementRules2" 141 "StatementRules2$Thrown" "numbers" "[I" "StatementRules2",
  .fieldLinkNest "StatementRules2$Machine" 99 "StatementRules2$Thrown" "sort" "I" "StatementRules2",
  .fieldLinkNest "StatementRules2$Machine" 102 "StatementRules2$Thrown" "number" "I" "StatementRules2",
  .fieldLinkNest "StatementRules2$Machine" 105 "StatementRules2$Thrown" "count" "I" "StatementRules2",
  .fieldLinkNest "StatementRules2" 133 "StatementRules2$Thrown" "count" "I" "StatementRules2",
  .fieldLinkNest "StatementRules2$Machine" 194 "StatementRules2$Frame" "phase" "I" "StatementRules2",
  .fieldLinkNest "StatementRules2$Machine" 197 "StatementRules2$Frame" "argument" "I" "StatementRules2",
  .fieldLinkNest "StatementRules2$Machine" 200 "StatementRules2$Frame" "height" "I" "StatementRules2",
  .fieldLinkNest "StatementRules2$Machine" 201 "StatementRules2$Frame" "openedBefore" "I" "StatementRules2",
  .fieldLinkNest "StatementRules2$Machine" 204 "StatementRules2$Frame" "thrown" "LStatementRules2$Thrown;" "StatementRules2",
  .fieldLinkNest "StatementRules2$Machine" 246 "StatementRules2$Frame" "way" "I" "StatementRules2",
  .fieldLinkNest "StatementRules2$Machine" 247 "StatementRules2$Frame" "wayValue" "I" "StatementRules2",
  .fieldLinkNest "StatementRules2$Machine" 248 "StatementRules2$Frame" "wayTarget" "I" "StatementRules2"]
def zIsN : Cond → Bool
  | .methodLinkNest .. => true
  | .fieldLinkNest .. => true
  | _ => false
theorem zNW_is : zNW.all zIsN = true := by decide +kernel
set_option maxRecDepth 20000 in
theorem zNW_in : ∀ w ∈ zNW, w ∈ lw_tbl := by decide +kernel
/-- what stands all along: the nest mates' links, the classes of the arrays of references -/
def zAMB (U : State) : Prop := (∀ w ∈ zNW, va_Nw w U) ∧ va_AO "StatementRules2$Open" U ∧ va_AO "StatementRules2$Frame" U ∧ va_AO "StatementRules2$Thrown" U
theorem zNw_warm {w : Cond} (hw : zIsN w = true) {s U : State} (hW : s.WarmedH U.vm) (h : va_Nw w s) : va_Nw w U := by
  cases w <;> first | exact va_Nw.warmM hW h | exact va_Nw.warmF hW h | (simp [zIsN] at hw)
theorem zNw_same {w : Cond} (hw : zIsN w = true) {u U : State} (hv : u.vm = U.vm) (h : va_Nw w u) : va_Nw w U := by
  cases w <;> first | exact va_Nw.same rfl hv h | (simp [zIsN] at hw)
theorem zAMB.warm {s U : State} (hW : s.WarmedH U.vm) (h : zAMB s) : zAMB U :=
  ⟨fun w hw => zNw_warm (List.all_eq_true.mp zNW_is w hw) hW (h.1 w hw), va_AO.moved hW.alike h.2.1, va_AO.moved hW.alike h.2.2.1, va_AO.moved hW.alike h.2.2.2⟩
theorem zAMB.calling {U : State} {g : JFrame} {mk : MethodId} {a : Array Value} (h : zAMB U) : zAMB (U.calling g mk a) :=
  ⟨fun w hw => zNw_same (List.all_eq_true.mp zNW_is w hw) rfl (h.1 w hw), va_AO.moved (Vm.Alike.refl U.vm) h.2.1, va_AO.moved (Vm.Alike.refl U.vm) h.2.2.1, va_AO.moved (Vm.Alike.refl U.vm) h.2.2.2⟩
/-- a contract's start -/
def zPre (dC : Nat → ClassId) (dI : Nat → Nat → Nat) (sz : Nat) (W0 : va_W) (tys : List (ClassId × FieldType)) (U : State) : Prop :=
  U.heap.size = sz ∧ zAMB U ∧ va_P (dC, dI) vwCl W0 U.heap ∧ va_K (dC, dI) vwCl tys U ∧ va_D (fun _ => True) W0
/-- a contract's end -/
def zPost (dC : Nat → ClassId) (dI : Nat → Nat → Nat) (A : Nat → Prop) (W1 : va_W) (tys : List (ClassId × FieldType)) (t : State) : Prop :=
  va_P (dC, dI) vwCl W1 t.heap ∧ va_K (dC, dI) vwCl tys t ∧ va_D A W1
theorem zPre.blind {av : List Value} {dC : Nat → ClassId} {dI : Nat → Nat → Nat} {sz : Nat} {W0 : va_W} {tys : List (ClassId × FieldType)} : FrameBlind (va_Pc av (zPre dC dI sz W0 tys)) := by
  intro a U g mk q
  obtain ⟨q0, q1, qZ, qP, qK, qD⟩ := q
  exact ⟨q0, q1, qZ.calling, qP, va_K.moved (u := U) (U := U.calling g mk a) (Vm.Alike.refl U.vm) qK, qD⟩
theorem zPre.go {av : List Value} {dC : Nat → ClassId} {dI : Nat → Nat → Nat} {W0 : va_W} {tys : List (ClassId × FieldType)} {s : State} {H : Heap} {A : Nat → Prop} (hZ : zAMB s) (hP : va_P (dC, dI) vwCl W0 H) (hK : va_K (dC, dI) vwCl tys s) (hD : va_D A W0) :
    ∀ U : State, U.heap = H → s.WarmedH U.vm → va_Pc av (zPre dC dI H.size W0 tys) av.toArray U :=
  fun _ hU hW => ⟨rfl, by rw [hU], hZ.warm hW, by rw [hU]; exact hP, va_K.moved hW.alike hK, hD.weaken (fun _ _ _ _ => trivial)⟩
theorem z_t0 : (0 : Int32).toInt = 0 := by decide
theorem z_vpin {x : Int32} (h1 : ¬ x < 0) (h2 : ¬ 8 ≤ x) : vp_in x 8 := by
  rw [vp_in_iff]
  have a := Int32.le_iff_toInt_le.mp (Int32.not_lt.mp h1)
  have b := Int32.lt_iff_toInt_lt.mp (Int32.not_le.mp h2)
  have e8 : (8 : Int32).toInt = 8 := by decide
  rw [z_t0] at a
  rw [e8] at b
  omega
theorem z_four {a : Int32} (h : ¬ a < 0 ∧ ¬ 4 ≤ a) : a = 0 ∨ a = 1 ∨ a = 2 ∨ a = 3 := by
  have x := Int32.le_iff_toInt_le.mp (Int32.not_lt.mp h.1)
  have y := Int32.lt_iff_toInt_lt.mp (Int32.not_le.mp h.2)
  have e4 : (4 : Int32).toInt = 4 := by decide
  have e1 : (1 : Int32).toInt = 1 := by decide
  have e2 : (2 : Int32).toInt = 2 := by decide
  have e3 : (3 : Int32).toInt = 3 := by decide
  rw [z_t0] at x
  rw [e4] at y
  rcases (show a.toInt = 0 ∨ a.toInt = 1 ∨ a.toInt = 2 ∨ a.toInt = 3 by omega) with h | h | h | h
  · exact Or.inl (Int32.toInt_inj.mp (h.trans z_t0.symm))
  · exact Or.inr (Or.inl (Int32.toInt_inj.mp (h.trans e1.symm)))
  · exact Or.inr (Or.inr (Or.inl (Int32.toInt_inj.mp (h.trans e2.symm))))
  · exact Or.inr (Or.inr (Or.inr (Int32.toInt_inj.mp (h.trans e3.symm))))
theorem z_34 {x : Int32} (h : ¬ 3 < x) : ¬ 4 ≤ x := by
  intro g
  have a := Int32.le_iff_toInt_le.mp g
  have b := Int32.le_iff_toInt_le.mp (Int32.not_lt.mp h)
  have e3 : (3 : Int32).toInt = 3 := by decide
  have e4 : (4 : Int32).toInt = 4 := by decide
  rw [e4] at a
  rw [e3] at b
  omega
theorem z_78 {x : Int32} (h : ¬ 7 < x) : ¬ 8 ≤ x := by
  intro g
  have a := Int32.le_iff_toInt_le.mp g
  have b := Int32.le_iff_toInt_le.mp (Int32.not_lt.mp h)
  have e3 : (7 : Int32).toInt = 7 := by decide
  have e4 : (8 : Int32).toInt = 8 := by decide
  rw [e4] at a
  rw [e3] at b
  omega
theorem z_four3 {a : Int32} (h : ¬ a < 0 ∧ ¬ 3 < a) : a = 0 ∨ a = 1 ∨ a = 2 ∨ a = 3 := z_four ⟨h.1, z_34 h.2⟩
theorem z_eq0 {n : Int32} (h1 : ¬ n < 0) (h2 : n ≤ 0) : n = 0 := Int32.le_antisymm h2 (Int32.not_lt.mp h1)
end
section
set_option maxHeartbeats 4000000 in
set_option maxRecDepth 100000 in
theorem c_X11_put (l : Launch) (dC : Nat → ClassId) (dI : Nat → Nat → Nat) (sz : Nat) (row : Nat) (kA : ClassId) (n : Nat) (f : Nat → Int32) (i : Int32) (v : Int32) (h1 : ¬ i < 0) (h2 : ¬ (Int32.ofNat n) ≤ i) (h3 : vp_in i n) : Met l yX11_put wzX11_put ({ frames := 1, cells := 0, slots := 0, locals := 60 }) (va_Pc [.ref row, .int i, .int v] (zPre dC dI sz [(row, .inl (kA, n, .inl f))] [(kA, .int)])) (va_Qv (fun (_ : Unit) => True) (fun (_ : Unit) (t : State) => ∃ (g : Nat → Int32), zPost dC dI (va_A [(row, .inl (kA, n, .inl f))] sz) [(row, .inl (kA, n, .inl g))] [(kA, .int)] t) (va_A [(row, .inl (kA, n, .inl f))] sz)) 0 0 (va_A [(row, .inl (kA, n, .inl f))] sz) := by
  refine Met.ofW (cc := cX11_put) (maxL := 3) (ret := none) (by decide) rfl ?_
  intro p e s m args below meth c s₁ B hml hv
  obtain ⟨rfl, hsz, hZ, hP, hK, hD0⟩ := hv
  have hx := B.exec
  have hb := B.bytes
  have hr := B.returns
  have hts := atoms_spec (ws := wzX11_put) B.pre
  have hown : s.vm.findClass RX11 = some m.cls := findClass_of_methodNamed B.named
  have hlocks := B.notSynchronized
  subst hsz
  have hD := hD0.self (sz := s.heap.size)
  generalize hAe : va_A [(row, .inl (kA, n, .inl f))] s.heap.size = A at hD ⊢
  have hA : ∀ q : Nat, s.heap.size ≤ q → A q := fun q h => by rw [← hAe]; exact Or.inr h
  have hS : va_S A s.heap s.heap [] := va_S.rf
  have hP : va_P (dC, dI) vwCl [(row, .inl (kA, n, .inl f))] s.heap := hP
  have hl := lv_entry ([.ref row, .int i, .int v]) (n := 3) (Nat.le_of_ble_eq_true rfl)
  rw [lg_entry_eq]
  generalize (lg_sl ([.ref row, .int i, .int v]) ++ List.replicate (3 - (lg_sl ([.ref row, .int i, .int v])).length) Slot.unset).toArray = ls at hl ⊢
  have hl : lv_has ls 3 [(0, .ref row), (1, .int i), (2, .int v)] := hl
  refine lv_iload_n hx hb dX11_put_0 rfl (lv_at hl 1 rfl) ?_
  refine lv_if_lt (tgt := 14) hx hb dX11_put_1 (by decide) (fun c9 => absurd c9 h1) (fun _ => ?_)
  refine lv_iload_n hx hb dX11_put_4 rfl (lv_at hl 1 rfl) ?_
  refine lv_aload_n hx hb dX11_put_5 rfl (lv_at hl 0 rfl) ?_
  refine va_alen (v := Int32.ofNat n) hx hb hK hP 0 0 rfl rfl rfl dX11_put_6 ?_
  refine lv_icmp_ge (tgt := 14) hx hb dX11_put_7 (by decide) (fun c9 => absurd c9 h2) (fun _ => ?_)
  refine lv_aload_n hx hb dX11_put_10 rfl (lv_at hl 0 rfl) ?_
  refine lv_iload_n hx hb dX11_put_11 rfl (lv_at hl 1 rfl) ?_
  refine lv_iload_n hx hb dX11_put_12 rfl (lv_at hl 2 rfl) ?_
  refine va_iast hx hb hK hP hD hS 0 0 rfl rfl h3 dX11_put_13 (fun H locs hP hD hS => ?_)
  obtain ⟨f1, hP, hD⟩ : ∃ (f1 : Nat → Int32), va_P (dC, dI) vwCl [(row, .inl (kA, n, .inl f1))] H ∧ va_D A [(row, .inl (kA, n, .inl f1))] := ⟨_, hP, hD⟩
  have hP9 := hP.sub (ws' := [(row, .inl (kA, n, .inl f1))]) [0] rfl
  have hD9 := hD.sub (ws' := [(row, .inl (kA, n, .inl f1))]) [0] (by decide) rfl
  have hK9 := hK.sub (tys' := [(kA, .int)]) [0] rfl
  exact W.vret hx hb hr (fun t ht hW => ⟨⟨(), rfl, trivial, f1, by rw [ht]; exact hP9, va_K.moved hW.alike hK9, hD9⟩, hS.F ht⟩) hS.2.2 dX11_put_14
set_option maxHeartbeats 4000000 in
set_option maxRecDepth 100000 in
theorem c_X11_at (l : Launch) (dC : Nat → ClassId) (dI : Nat → Nat → Nat) (sz : Nat) (row : Nat) (kA : ClassId) (n : Nat) (f : Nat → Int32) (i : Int32) (h1 : ¬ i < 0) (h2 : ¬ (Int32.ofNat n) ≤ i) (h3 : vp_in i n) : Met l yX11_at wzX11_at ({ frames := 1, cells := 0, slots := 0, locals := 60 }) (va_Pc [.ref row, .int i] (zPre dC dI sz [(row, .inl (kA, n, .inl f))] [(kA, .int)])) (va_Qi (fun (r : Int32) (_ : Unit) => r = f i.toNatClampNeg) (fun (_ : Unit) (t : State) => zPost dC dI (va_A [(row, .inl (kA, n, .inl f))] sz) [(row, .inl (kA, n, .inl f))] [(kA, .int)] t) (va_A [(row, .inl (kA, n, .inl f))] sz)) 0 0 (va_A [(row, .inl (kA, n, .inl f))] sz) := by
  refine Met.ofW (cc := cX11_at) (maxL := 2) (ret := (some .int)) (by decide) rfl ?_
  intro p e s m args below meth c s₁ B hml hv
  obtain ⟨rfl, hsz, hZ, hP, hK, hD0⟩ := hv
  have hx := B.exec
  have hb := B.bytes
  have hr := B.returns
  have hts := atoms_spec (ws := wzX11_at) B.pre
  have hown : s.vm.findClass RX11 = some m.cls := findClass_of_methodNamed B.named
  have hlocks := B.notSynchronized
  subst hsz
  have hD := hD0.self (sz := s.heap.size)
  generalize hAe : va_A [(row, .inl (kA, n, .inl f))] s.heap.size = A at hD ⊢
  have hA : ∀ q : Nat, s.heap.size ≤ q → A q := fun q h => by rw [← hAe]; exact Or.inr h
  have hS : va_S A s.heap s.heap [] := va_S.rf
  have hP : va_P (dC, dI) vwCl [(row, .inl (kA, n, .inl f))] s.heap := hP
  have hl := lv_entry ([.ref row, .int i]) (n := 2) (Nat.le_of_ble_eq_true rfl)
  rw [lg_entry_eq]
  generalize (lg_sl ([.ref row, .int i]) ++ List.replicate (2 - (lg_sl ([.ref row, .int i])).length) Slot.unset).toArray = ls at hl ⊢
  have hl : lv_has ls 2 [(0, .ref row), (1, .int i)] := hl
  refine lv_iload_n hx hb dX11_at_0 rfl (lv_at hl 1 rfl) ?_
  refine lv_if_lt (tgt := 16) hx hb dX11_at_1 (by decide) (fun c9 => absurd c9 h1) (fun _ => ?_)
  refine lv_iload_n hx hb dX11_at_4 rfl (lv_at hl 1 rfl) ?_
  refine lv_aload_n hx hb dX11_at_5 rfl (lv_at hl 0 rfl) ?_
  refine va_alen (v := Int32.ofNat n) hx hb hK hP 0 0 rfl rfl rfl dX11_at_6 ?_
  refine lv_icmp_ge (tgt := 16) hx hb dX11_at_7 (by decide) (fun c9 => absurd c9 h2) (fun _ => ?_)
  refine lv_aload_n hx hb dX11_at_10 rfl (lv_at hl 0 rfl) ?_
  refine lv_iload_n hx hb dX11_at_11 rfl (lv_at hl 1 rfl) ?_
  refine va_iald hx hb hK hP 0 0 rfl rfl h3 dX11_at_12 ?_
  refine lv_topi (fun z1 ez1 => ?_)
  refine lv_goto (tgt := 17) hx hb dX11_at_13 (by decide) ?_
  have hP9 := hP.sub (ws' := [(row, .inl (kA, n, .inl f))]) [0] rfl
  have hD9 := hD.sub (ws' := [(row, .inl (kA, n, .inl f))]) [0] (by decide) rfl
  have hK9 := hK.sub (tys' := [(kA, .int)]) [0] rfl
  exact W.iret (v := z1) hx hb hr (fun t ht hW => ⟨⟨z1, (), rfl, ez1, by rw [ht]; exact hP9, va_K.moved hW.alike hK9, hD9⟩, hS.F ht⟩) hS.2.2 dX11_at_17
theorem k_X11_cut_fieldLink_RX11_50_SR_length_I : Cond.fieldLink RX11 50 "StatementRules2" "length" "I" ∈ wzX11_cut := List.mem_cons_of_mem _ (List.mem_append_left _ (List.mem_of_getElem? (i := 0) rfl))
theorem i_X11_cut_X11 : ∀ w ∈ wsX110, w ∈ wzX11_cut := fun _ h => List.mem_cons_of_mem _ (List.mem_append_right _ (List.mem_append_left _ (h)))
set_option maxHeartbeats 4000000 in
set_option maxRecDepth 100000 in
theorem c_X11_cut (l : Launch) (dC : Nat → ClassId) (dI : Nat → Nat → Nat) (sz : Nat) (h0 : Nat) (n : Int32) (x_tape : Value) (x_told : Value) (x_code : Value) (x_reader : Value) (x_machine : Value) (x_latestFault : Value) (x_hasProgram : Value) (x_hasRun : Value) : Met l yX11_cut wzX11_cut ({ frames := 1, cells := 0, slots := 0, locals := 60 }) (va_Pc [.ref h0, .int n] (zPre dC dI sz [(h0, .inr (10, [x_tape, x_told, x_code, x_reader, x_machine, .int 0, x_latestFault, x_hasProgram, x_hasRun]))] [])) (va_Qi (fun (r : Int32) (_ : Unit) => r = if n = 0 then 0 else -1) (fun (_ : Unit) (t : State) => zPost dC dI (va_A [(h0, .inr (10, [x_tape, x_told, x_code, x_reader, x_machine, .int 0, x_latestFault, x_hasProgram, x_hasRun]))] sz) [] [] t) (va_A [(h0, .inr (10, [x_tape, x_told, x_code, x_reader, x_machine, .int 0, x_latestFault, x_hasProgram, x_hasRun]))] sz)) 0 0 (va_A [(h0, .inr (10, [x_tape, x_told, x_code, x_reader, x_machine, .int 0, x_latestFault, x_hasProgram, x_hasRun]))] sz) := by
  refine Met.ofW (cc := cX11_cut) (maxL := 3) (ret := (some .int)) (by decide) rfl ?_
  intro p e s m args below meth c s₁ B hml hv
  obtain ⟨rfl, hsz, hZ, hP, hK, hD0⟩ := hv
  have hx := B.exec
  have hb := B.bytes
  have hr := B.returns
  have hts := atoms_spec (ws := wzX11_cut) B.pre
  have hown : s.vm.findClass RX11 = some m.cls := findClass_of_methodNamed B.named
  have hlocks := B.notSynchronized
  subst hsz
  have hD := hD0.self (sz := s.heap.size)
  generalize hAe : va_A [(h0, .inr (10, [x_tape, x_told, x_code, x_reader, x_machine, .int 0, x_latestFault, x_hasProgram, x_hasRun]))] s.heap.size = A at hD ⊢
  have hA : ∀ q : Nat, s.heap.size ≤ q → A q := fun q h => by rw [← hAe]; exact Or.inr h
  have hS : va_S A s.heap s.heap [] := va_S.rf
  have hP : va_P (dC, dI) vwCl [(h0, .inr (10, [x_tape, x_told, x_code, x_reader, x_machine, .int 0, x_latestFault, x_hasProgram, x_hasRun]))] s.heap := hP
  have hl := lv_entry ([.ref h0, .int n]) (n := 3) (Nat.le_of_ble_eq_true rfl)
  rw [lg_entry_eq]
  generalize (lg_sl ([.ref h0, .int n]) ++ List.replicate (3 - (lg_sl ([.ref h0, .int n])).length) Slot.unset).toArray = ls at hl ⊢
  have hl : lv_has ls 3 [(0, .ref h0), (1, .int n)] := hl
  refine lv_iload_n hx hb dX11_cut_0 rfl (lv_at hl 1 rfl) ?_
  refine lv_if_lt (tgt := 12) hx hb dX11_cut_1 (by decide) (fun c1 => ?_) (fun c1 => ?_)
  ·
    refine lv_iconst (v := (-1)) hx hb dX11_cut_12 (by decide) ?_
    have hP9 := hP.sub (ws' := []) [] rfl
    have hD9 := hD.sub (ws' := []) [] (by decide) rfl
    have hK9 := hK.sub (tys' := []) [] rfl
    exact W.iret (v := (-1)) hx hb hr (fun t ht hW => ⟨⟨(-1), (), rfl, (if_neg (fun h => absurd c1 (by rw [h]; decide))).symm, by rw [ht]; exact hP9, va_K.moved hW.alike hK9, hD9⟩, hS.F ht⟩) hS.2.2 dX11_cut_13
  ·
    refine lv_iload_n hx hb dX11_cut_4 rfl (lv_at hl 1 rfl) ?_
    refine lv_aload_n hx hb dX11_cut_5 rfl (lv_at hl 0 rfl) ?_
    refine va_get (D := (dC, dI)) (ci := 10) (v := .int 0) (C := RX11) (T := TX11) (N := 9) hx hb hts i_X11_cut_X11 hown hK hP 0 rfl rfl 5 (by decide) (hts (.fieldLink RX11 50 "StatementRules2" "length" "I") k_X11_cut_fieldLink_RX11_50_SR_length_I) (fun _ h9 => h9) rfl dX11_cut_6 ?_
    refine lv_icmp_le (tgt := 14) hx hb dX11_cut_9 (by decide) (fun c2 => ?_) (fun c2 => ?_)
    ·
      refine lv_aload_n hx hb dX11_cut_14 rfl (lv_at hl 0 rfl) ?_
      refine va_get (D := (dC, dI)) (ci := 10) (v := .int 0) (C := RX11) (T := TX11) (N := 9) hx hb hts i_X11_cut_X11 hown hK hP 0 rfl rfl 5 (by decide) (hts (.fieldLink RX11 50 "StatementRules2" "length" "I") k_X11_cut_fieldLink_RX11_50_SR_length_I) (fun _ h9 => h9) rfl dX11_cut_15 ?_
      refine lv_iload_n hx hb dX11_cut_18 rfl (lv_at hl 1 rfl) ?_
      refine lv_isub hx hb dX11_cut_19 ?_
      refine lv_topi (fun z3 ez3 => ?_)
      refine lv_istore_n (lv' := [(2, .int z3), (0, .ref h0), (1, .int n)]) hx hb dX11_cut_20 rfl hl (by decide) rfl (fun ls hl => ?_)
      refine lv_aload_n hx hb dX11_cut_21 rfl (lv_at hl 1 rfl) ?_
      refine lv_iload_n hx hb dX11_cut_22 rfl (lv_at hl 2 rfl) ?_
      refine va_put (D := (dC, dI)) (ci := 10) (v := .int n) (ty := .int) (C := RX11) (T := TX11) (N := 9) hx hb hts i_X11_cut_X11 tyX11 tyX11_ok nmX11 hown hK hP hD hS 0 rfl rfl 5 (by decide) (hts (.fieldLink RX11 50 "StatementRules2" "length" "I") k_X11_cut_fieldLink_RX11_50_SR_length_I) (fun _ h9 => h9) rfl (by decide +kernel) rfl rfl (Nat.le_of_ble_eq_true rfl) dX11_cut_23 (fun H locs hP hD hS => ?_)
      have hP : va_P (dC, dI) vwCl [(h0, .inr (10, [x_tape, x_told, x_code, x_reader, x_machine, .int n, x_latestFault, x_hasProgram, x_hasRun]))] H := hP
      have hD : va_D A [(h0, .inr (10, [x_tape, x_told, x_code, x_reader, x_machine, .int n, x_latestFault, x_hasProgram, x_hasRun]))] := hD
      refine lv_iload_n hx hb dX11_cut_26 rfl (lv_at hl 0 rfl) ?_
      have hP9 := hP.sub (ws' := []) [] rfl
      have hD9 := hD.sub (ws' := []) [] (by decide) rfl
      have hK9 := hK.sub (tys' := []) [] rfl
      exact W.iret (v := z3) hx hb hr (fun t ht hW => ⟨⟨z3, (), rfl, (by have h0 := z_eq0 c1 c2; rw [ez3, h0]; decide), by rw [ht]; exact hP9, va_K.moved hW.alike hK9, hD9⟩, hS.F ht⟩) hS.2.2 dX11_cut_27
    ·
      refine lv_iconst (v := (-1)) hx hb dX11_cut_12 (by decide) ?_
      have hP9 := hP.sub (ws' := []) [] rfl
      have hD9 := hD.sub (ws' := []) [] (by decide) rfl
      have hK9 := hK.sub (tys' := []) [] rfl
      exact W.iret (v := (-1)) hx hb hr (fun t ht hW => ⟨⟨(-1), (), rfl, (if_neg (fun h => absurd (by rw [h]; decide) c2)).symm, by rw [ht]; exact hP9, va_K.moved hW.alike hK9, hD9⟩, hS.F ht⟩) hS.2.2 dX11_cut_13
theorem k_X11_fault_fieldLink_RX11_91_SR_latestFault_I : Cond.fieldLink RX11 91 "StatementRules2" "latestFault" "I" ∈ wzX11_fault := List.mem_cons_of_mem _ (List.mem_append_left _ (List.mem_of_getElem? (i := 0) rfl))
theorem i_X11_fault_X11 : ∀ w ∈ wsX110, w ∈ wzX11_fault := fun _ h => List.mem_cons_of_mem _ (List.mem_append_right _ (List.mem_append_left _ (h)))
set_option maxHeartbeats 4000000 in
set_option maxRecDepth 100000 in
theorem c_X11_fault (l : Launch) (dC : Nat → ClassId) (dI : Nat → Nat → Nat) (sz : Nat) (h0 : Nat) (x_tape : Value) (x_told : Value) (x_code : Value) (x_reader : Value) (x_machine : Value) (x_length : Value) (x_hasProgram : Value) (x_hasRun : Value) : Met l yX11_fault wzX11_fault ({ frames := 1, cells := 0, slots := 0, locals := 60 }) (va_Pc [.ref h0] (zPre dC dI sz [(h0, .inr (10, [x_tape, x_told, x_code, x_reader, x_machine, x_length, .int 0, x_hasProgram, x_hasRun]))] [])) (va_Qi (fun (r : Int32) (_ : Unit) => r = 0) (fun (_ : Unit) (t : State) => zPost dC dI (va_A [(h0, .inr (10, [x_tape, x_told, x_code, x_reader, x_machine, x_length, .int 0, x_hasProgram, x_hasRun]))] sz) [] [] t) (va_A [(h0, .inr (10, [x_tape, x_told, x_code, x_reader, x_machine, x_length, .int 0, x_hasProgram, x_hasRun]))] sz)) 0 0 (va_A [(h0, .inr (10, [x_tape, x_told, x_code, x_reader, x_machine, x_length, .int 0, x_hasProgram, x_hasRun]))] sz) := by
  refine Met.ofW (cc := cX11_fault) (maxL := 1) (ret := (some .int)) (by decide) rfl ?_
  intro p e s m args below meth c s₁ B hml hv
  obtain ⟨rfl, hsz, hZ, hP, hK, hD0⟩ := hv
  have hx := B.exec
  have hb := B.bytes
  have hr := B.returns
  have hts := atoms_spec (ws := wzX11_fault) B.pre
  have hown : s.vm.findClass RX11 = some m.cls := findClass_of_methodNamed B.named
  have hlocks := B.notSynchronized
  subst hsz
  have hD := hD0.self (sz := s.heap.size)
  generalize hAe : va_A [(h0, .inr (10, [x_tape, x_told, x_code, x_reader, x_machine, x_length, .int 0, x_hasProgram, x_hasRun]))] s.heap.size = A at hD ⊢
  have hA : ∀ q : Nat, s.heap.size ≤ q → A q := fun q h => by rw [← hAe]; exact Or.inr h
  have hS : va_S A s.heap s.heap [] := va_S.rf
  have hP : va_P (dC, dI) vwCl [(h0, .inr (10, [x_tape, x_told, x_code, x_reader, x_machine, x_length, .int 0, x_hasProgram, x_hasRun]))] s.heap := hP
  have hl := lv_entry ([.ref h0]) (n := 1) (Nat.le_of_ble_eq_true rfl)
  rw [lg_entry_eq]
  generalize (lg_sl ([.ref h0]) ++ List.replicate (1 - (lg_sl ([.ref h0])).length) Slot.unset).toArray = ls at hl ⊢
  have hl : lv_has ls 1 [(0, .ref h0)] := hl
  refine lv_aload_n hx hb dX11_fault_0 rfl (lv_at hl 0 rfl) ?_
  refine va_get (D := (dC, dI)) (ci := 10) (v := .int 0) (C := RX11) (T := TX11) (N := 9) hx hb hts i_X11_fault_X11 hown hK hP 0 rfl rfl 6 (by decide) (hts (.fieldLink RX11 91 "StatementRules2" "latestFault" "I") k_X11_fault_fieldLink_RX11_91_SR_latestFault_I) (fun _ h9 => h9) rfl dX11_fault_1 ?_
  have hP9 := hP.sub (ws' := []) [] rfl
  have hD9 := hD.sub (ws' := []) [] (by decide) rfl
  have hK9 := hK.sub (tys' := []) [] rfl
  exact W.iret (v := 0) hx hb hr (fun t ht hW => ⟨⟨0, (), rfl, rfl, by rw [ht]; exact hP9, va_K.moved hW.alike hK9, hD9⟩, hS.F ht⟩) hS.2.2 dX11_fault_4
theorem k_X11_run_fieldLink_RX11_94_SR_hasProgram_Z : Cond.fieldLink RX11 94 "StatementRules2" "hasProgram" "Z" ∈ wzX11_run := List.mem_cons_of_mem _ (List.mem_append_left _ (List.mem_of_getElem? (i := 0) rfl))
theorem i_X11_run_X11 : ∀ w ∈ wsX110, w ∈ wzX11_run := fun _ h => List.mem_cons_of_mem _ (List.mem_append_right _ (List.mem_append_left _ (h)))
set_option maxHeartbeats 4000000 in
set_option maxRecDepth 100000 in
theorem c_X11_run (l : Launch) (dC : Nat → ClassId) (dI : Nat → Nat → Nat) (sz : Nat) (h0 : Nat) (a : Int32) (b : Int32) (x_tape : Value) (x_told : Value) (x_code : Value) (x_reader : Value) (x_machine : Value) (x_length : Value) (x_latestFault : Value) (x_hasRun : Value) : Met l yX11_run wzX11_run ({ frames := 1, cells := 0, slots := 0, locals := 60 }) (va_Pc [.ref h0, .int a, .int b] (zPre dC dI sz [(h0, .inr (10, [x_tape, x_told, x_code, x_reader, x_machine, x_length, x_latestFault, .int 0, x_hasRun]))] [])) (va_Qi (fun (r : Int32) (_ : Unit) => r = -3) (fun (_ : Unit) (t : State) => zPost dC dI (va_A [(h0, .inr (10, [x_tape, x_told, x_code, x_reader, x_machine, x_length, x_latestFault, .int 0, x_hasRun]))] sz) [] [] t) (va_A [(h0, .inr (10, [x_tape, x_told, x_code, x_reader, x_machine, x_length, x_latestFault, .int 0, x_hasRun]))] sz)) 0 0 (va_A [(h0, .inr (10, [x_tape, x_told, x_code, x_reader, x_machine, x_length, x_latestFault, .int 0, x_hasRun]))] sz) := by
  refine Met.ofW (cc := cX11_run) (maxL := 3) (ret := (some .int)) (by decide) rfl ?_
  intro p e s m args below meth c s₁ B hml hv
  obtain ⟨rfl, hsz, hZ, hP, hK, hD0⟩ := hv
  have hx := B.exec
  have hb := B.bytes
  have hr := B.returns
  have hts := atoms_spec (ws := wzX11_run) B.pre
  have hown : s.vm.findClass RX11 = some m.cls := findClass_of_methodNamed B.named
  have hlocks := B.notSynchronized
  subst hsz
  have hD := hD0.self (sz := s.heap.size)
  generalize hAe : va_A [(h0, .inr (10, [x_tape, x_told, x_code, x_reader, x_machine, x_length, x_latestFault, .int 0, x_hasRun]))] s.heap.size = A at hD ⊢
  have hA : ∀ q : Nat, s.heap.size ≤ q → A q := fun q h => by rw [← hAe]; exact Or.inr h
  have hS : va_S A s.heap s.heap [] := va_S.rf
  have hP : va_P (dC, dI) vwCl [(h0, .inr (10, [x_tape, x_told, x_code, x_reader, x_machine, x_length, x_latestFault, .int 0, x_hasRun]))] s.heap := hP
  have hl := lv_entry ([.ref h0, .int a, .int b]) (n := 3) (Nat.le_of_ble_eq_true rfl)
  rw [lg_entry_eq]
  generalize (lg_sl ([.ref h0, .int a, .int b]) ++ List.replicate (3 - (lg_sl ([.ref h0, .int a, .int b])).length) Slot.unset).toArray = ls at hl ⊢
  have hl : lv_has ls 3 [(0, .ref h0), (1, .int a), (2, .int b)] := hl
  refine lv_aload_n hx hb dX11_run_0 rfl (lv_at hl 0 rfl) ?_
  refine va_get (D := (dC, dI)) (ci := 10) (v := .int 0) (C := RX11) (T := TX11) (N := 9) hx hb hts i_X11_run_X11 hown hK hP 0 rfl rfl 7 (by decide) (hts (.fieldLink RX11 94 "StatementRules2" "hasProgram" "Z") k_X11_run_fieldLink_RX11_94_SR_hasProgram_Z) (fun _ h9 => h9) rfl dX11_run_1 ?_
  refine lv_if_ne (tgt := 10) hx hb dX11_run_4 (by decide) (fun c9 => absurd (by decide) c9) (fun _ => ?_)
  refine lv_bipush (v := (-3)) hx hb dX11_run_7 (by decide) ?_
  have hP9 := hP.sub (ws' := []) [] rfl
  have hD9 := hD.sub (ws' := []) [] (by decide) rfl
  have hK9 := hK.sub (tys' := []) [] rfl
  exact W.iret (v := (-3)) hx hb hr (fun t ht hW => ⟨⟨(-3), (), rfl, rfl, by rw [ht]; exact hP9, va_K.moved hW.alike hK9, hD9⟩, hS.F ht⟩) hS.2.2 dX11_run_9
theorem k_X11_program_fieldLink_RX11_94_SR_hasProgram_Z : Cond.fieldLink RX11 94 "StatementRules2" "hasProgram" "Z" ∈ wzX11_program := List.mem_cons_of_mem _ (List.mem_append_left _ (List.mem_of_getElem? (i := 0) rfl))
theorem i_X11_program_X11 : ∀ w ∈ wsX110, w ∈ wzX11_program := fun _ h => List.mem_cons_of_mem _ (List.mem_append_right _ (List.mem_append_left _ (h)))
set_option maxHeartbeats 4000000 in
set_option maxRecDepth 100000 in
theorem c_X11_program (l : Launch) (dC : Nat → ClassId) (dI : Nat → Nat → Nat) (sz : Nat) (h0 : Nat) (w : Int32) (x_tape : Value) (x_told : Value) (x_code : Value) (x_reader : Value) (x_machine : Value) (x_length : Value) (x_latestFault : Value) (x_hasRun : Value) : Met l yX11_program wzX11_program ({ frames := 1, cells := 0, slots := 0, locals := 60 }) (va_Pc [.ref h0, .int w] (zPre dC dI sz [(h0, .inr (10, [x_tape, x_told, x_code, x_reader, x_machine, x_length, x_latestFault, .int 0, x_hasRun]))] [])) (va_Qi (fun (r : Int32) (_ : Unit) => r = if ¬ w < 0 ∧ w ≤ 3 then -3 else -1) (fun (_ : Unit) (t : State) => zPost dC dI (va_A [(h0, .inr (10, [x_tape, x_told, x_code, x_reader, x_machine, x_length, x_latestFault, .int 0, x_hasRun]))] sz) [] [] t) (va_A [(h0, .inr (10, [x_tape, x_told, x_code, x_reader, x_machine, x_length, x_latestFault, .int 0, x_hasRun]))] sz)) 0 0 (va_A [(h0, .inr (10, [x_tape, x_told, x_code, x_reader, x_machine, x_length, x_latestFault, .int 0, x_hasRun]))] sz) := by
  refine Met.ofW (cc := cX11_program) (maxL := 2) (ret := (some .int)) (by decide) rfl ?_
  intro p e s m args below meth c s₁ B hml hv
  obtain ⟨rfl, hsz, hZ, hP, hK, hD0⟩ := hv
  have hx := B.exec
  have hb := B.bytes
  have hr := B.returns
  have hts := atoms_spec (ws := wzX11_program) B.pre
  have hown : s.vm.findClass RX11 = some m.cls := findClass_of_methodNamed B.named
  have hlocks := B.notSynchronized
  subst hsz
  have hD := hD0.self (sz := s.heap.size)
  generalize hAe : va_A [(h0, .inr (10, [x_tape, x_told, x_code, x_reader, x_machine, x_length, x_latestFault, .int 0, x_hasRun]))] s.heap.size = A at hD ⊢
  have hA : ∀ q : Nat, s.heap.size ≤ q → A q := fun q h => by rw [← hAe]; exact Or.inr h
  have hS : va_S A s.heap s.heap [] := va_S.rf
  have hP : va_P (dC, dI) vwCl [(h0, .inr (10, [x_tape, x_told, x_code, x_reader, x_machine, x_length, x_latestFault, .int 0, x_hasRun]))] s.heap := hP
  have hl := lv_entry ([.ref h0, .int w]) (n := 2) (Nat.le_of_ble_eq_true rfl)
  rw [lg_entry_eq]
  generalize (lg_sl ([.ref h0, .int w]) ++ List.replicate (2 - (lg_sl ([.ref h0, .int w])).length) Slot.unset).toArray = ls at hl ⊢
  have hl : lv_has ls 2 [(0, .ref h0), (1, .int w)] := hl
  refine lv_iload_n hx hb dX11_program_0 rfl (lv_at hl 1 rfl) ?_
  refine lv_if_lt (tgt := 9) hx hb dX11_program_1 (by decide) (fun c1 => ?_) (fun c1 => ?_)
  ·
    refine lv_iconst (v := (-1)) hx hb dX11_program_9 (by decide) ?_
    have hP9 := hP.sub (ws' := []) [] rfl
    have hD9 := hD.sub (ws' := []) [] (by decide) rfl
    have hK9 := hK.sub (tys' := []) [] rfl
    exact W.iret (v := (-1)) hx hb hr (fun t ht hW => ⟨⟨(-1), (), rfl, (if_neg (fun h => h.1 c1)).symm, by rw [ht]; exact hP9, va_K.moved hW.alike hK9, hD9⟩, hS.F ht⟩) hS.2.2 dX11_program_10
  ·
    refine lv_iload_n hx hb dX11_program_4 rfl (lv_at hl 1 rfl) ?_
    refine lv_iconst (v := 3) hx hb dX11_program_5 (by decide) ?_
    refine lv_icmp_le (tgt := 11) hx hb dX11_program_6 (by decide) (fun c2 => ?_) (fun c2 => ?_)
    ·
      refine lv_aload_n hx hb dX11_program_11 rfl (lv_at hl 0 rfl) ?_
      refine va_get (D := (dC, dI)) (ci := 10) (v := .int 0) (C := RX11) (T := TX11) (N := 9) hx hb hts i_X11_program_X11 hown hK hP 0 rfl rfl 7 (by decide) (hts (.fieldLink RX11 94 "StatementRules2" "hasProgram" "Z") k_X11_program_fieldLink_RX11_94_SR_hasProgram_Z) (fun _ h9 => h9) rfl dX11_program_12 ?_
      refine lv_if_ne (tgt := 21) hx hb dX11_program_15 (by decide) (fun c9 => absurd (by decide) c9) (fun _ => ?_)
      refine lv_bipush (v := (-3)) hx hb dX11_program_18 (by decide) ?_
      have hP9 := hP.sub (ws' := []) [] rfl
      have hD9 := hD.sub (ws' := []) [] (by decide) rfl
      have hK9 := hK.sub (tys' := []) [] rfl
      exact W.iret (v := (-3)) hx hb hr (fun t ht hW => ⟨⟨(-3), (), rfl, (if_pos ⟨c1, c2⟩).symm, by rw [ht]; exact hP9, va_K.moved hW.alike hK9, hD9⟩, hS.F ht⟩) hS.2.2 dX11_program_20
    ·
      refine lv_iconst (v := (-1)) hx hb dX11_program_9 (by decide) ?_
      have hP9 := hP.sub (ws' := []) [] rfl
      have hD9 := hD.sub (ws' := []) [] (by decide) rfl
      have hK9 := hK.sub (tys' := []) [] rfl
      exact W.iret (v := (-1)) hx hb hr (fun t ht hW => ⟨⟨(-1), (), rfl, (if_neg (fun h => c2 h.2)).symm, by rw [ht]; exact hP9, va_K.moved hW.alike hK9, hD9⟩, hS.F ht⟩) hS.2.2 dX11_program_10
theorem k_X11_ran_fieldLink_RX11_85_SR_hasRun_Z : Cond.fieldLink RX11 85 "StatementRules2" "hasRun" "Z" ∈ wzX11_ran := List.mem_cons_of_mem _ (List.mem_append_left _ (List.mem_of_getElem? (i := 0) rfl))
theorem i_X11_ran_X11 : ∀ w ∈ wsX110, w ∈ wzX11_ran := fun _ h => List.mem_cons_of_mem _ (List.mem_append_right _ (List.mem_append_left _ (h)))
set_option maxHeartbeats 4000000 in
set_option maxRecDepth 100000 in
theorem c_X11_ran (l : Launch) (dC : Nat → ClassId) (dI : Nat → Nat → Nat) (sz : Nat) (h0 : Nat) (w : Int32) (x_tape : Value) (x_told : Value) (x_code : Value) (x_reader : Value) (x_machine : Value) (x_length : Value) (x_latestFault : Value) (x_hasProgram : Value) : Met l yX11_ran wzX11_ran ({ frames := 1, cells := 0, slots := 0, locals := 60 }) (va_Pc [.ref h0, .int w] (zPre dC dI sz [(h0, .inr (10, [x_tape, x_told, x_code, x_reader, x_machine, x_length, x_latestFault, x_hasProgram, .int 0]))] [])) (va_Qi (fun (r : Int32) (_ : Unit) => r = if ¬ w < 0 ∧ w ≤ 6 then -3 else -1) (fun (_ : Unit) (t : State) => zPost dC dI (va_A [(h0, .inr (10, [x_tape, x_told, x_code, x_reader, x_machine, x_length, x_latestFault, x_hasProgram, .int 0]))] sz) [] [] t) (va_A [(h0, .inr (10, [x_tape, x_told, x_code, x_reader, x_machine, x_length, x_latestFault, x_hasProgram, .int 0]))] sz)) 0 0 (va_A [(h0, .inr (10, [x_tape, x_told, x_code, x_reader, x_machine, x_length, x_latestFault, x_hasProgram, .int 0]))] sz) := by
  refine Met.ofW (cc := cX11_ran) (maxL := 2) (ret := (some .int)) (by decide) rfl ?_
  intro p e s m args below meth c s₁ B hml hv
  obtain ⟨rfl, hsz, hZ, hP, hK, hD0⟩ := hv
  have hx := B.exec
  have hb := B.bytes
  have hr := B.returns
  have hts := atoms_spec (ws := wzX11_ran) B.pre
  have hown : s.vm.findClass RX11 = some m.cls := findClass_of_methodNamed B.named
  have hlocks := B.notSynchronized
  subst hsz
  have hD := hD0.self (sz := s.heap.size)
  generalize hAe : va_A [(h0, .inr (10, [x_tape, x_told, x_code, x_reader, x_machine, x_length, x_latestFault, x_hasProgram, .int 0]))] s.heap.size = A at hD ⊢
  have hA : ∀ q : Nat, s.heap.size ≤ q → A q := fun q h => by rw [← hAe]; exact Or.inr h
  have hS : va_S A s.heap s.heap [] := va_S.rf
  have hP : va_P (dC, dI) vwCl [(h0, .inr (10, [x_tape, x_told, x_code, x_reader, x_machine, x_length, x_latestFault, x_hasProgram, .int 0]))] s.heap := hP
  have hl := lv_entry ([.ref h0, .int w]) (n := 2) (Nat.le_of_ble_eq_true rfl)
  rw [lg_entry_eq]
  generalize (lg_sl ([.ref h0, .int w]) ++ List.replicate (2 - (lg_sl ([.ref h0, .int w])).length) Slot.unset).toArray = ls at hl ⊢
  have hl : lv_has ls 2 [(0, .ref h0), (1, .int w)] := hl
  refine lv_iload_n hx hb dX11_ran_0 rfl (lv_at hl 1 rfl) ?_
  refine lv_if_lt (tgt := 10) hx hb dX11_ran_1 (by decide) (fun c1 => ?_) (fun c1 => ?_)
  ·
    refine lv_iconst (v := (-1)) hx hb dX11_ran_10 (by decide) ?_
    have hP9 := hP.sub (ws' := []) [] rfl
    have hD9 := hD.sub (ws' := []) [] (by decide) rfl
    have hK9 := hK.sub (tys' := []) [] rfl
    exact W.iret (v := (-1)) hx hb hr (fun t ht hW => ⟨⟨(-1), (), rfl, (if_neg (fun h => h.1 c1)).symm, by rw [ht]; exact hP9, va_K.moved hW.alike hK9, hD9⟩, hS.F ht⟩) hS.2.2 dX11_ran_11
  ·
    refine lv_iload_n hx hb dX11_ran_4 rfl (lv_at hl 1 rfl) ?_
    refine lv_bipush (v := 6) hx hb dX11_ran_5 (by decide) ?_
    refine lv_icmp_le (tgt := 12) hx hb dX11_ran_7 (by decide) (fun c2 => ?_) (fun c2 => ?_)
    ·
      refine lv_aload_n hx hb dX11_ran_12 rfl (lv_at hl 0 rfl) ?_
      refine va_get (D := (dC, dI)) (ci := 10) (v := .int 0) (C := RX11) (T := TX11) (N := 9) hx hb hts i_X11_ran_X11 hown hK hP 0 rfl rfl 8 (by decide) (hts (.fieldLink RX11 85 "StatementRules2" "hasRun" "Z") k_X11_ran_fieldLink_RX11_85_SR_hasRun_Z) (fun _ h9 => h9) rfl dX11_ran_13 ?_
      refine lv_if_eq (tgt := 30) hx hb dX11_ran_16 (by decide) (fun _ => ?_) (fun c9 => absurd (by decide) c9)
      refine lv_bipush (v := (-3)) hx hb dX11_ran_30 (by decide) ?_
      have hP9 := hP.sub (ws' := []) [] rfl
      have hD9 := hD.sub (ws' := []) [] (by decide) rfl
      have hK9 := hK.sub (tys' := []) [] rfl
      exact W.iret (v := (-3)) hx hb hr (fun t ht hW => ⟨⟨(-3), (), rfl, (if_pos ⟨c1, c2⟩).symm, by rw [ht]; exact hP9, va_K.moved hW.alike hK9, hD9⟩, hS.F ht⟩) hS.2.2 dX11_ran_32
    ·
      refine lv_iconst (v := (-1)) hx hb dX11_ran_10 (by decide) ?_
      have hP9 := hP.sub (ws' := []) [] rfl
      have hD9 := hD.sub (ws' := []) [] (by decide) rfl
      have hK9 := hK.sub (tys' := []) [] rfl
      exact W.iret (v := (-1)) hx hb hr (fun t ht hW => ⟨⟨(-1), (), rfl, (if_neg (fun h => c2 h.2)).symm, by rw [ht]; exact hP9, va_K.moved hW.alike hK9, hD9⟩, hS.F ht⟩) hS.2.2 dX11_ran_11
theorem k_X11_trace_fieldLink_RX11_85_SR_hasRun_Z : Cond.fieldLink RX11 85 "StatementRules2" "hasRun" "Z" ∈ wzX11_trace := List.mem_cons_of_mem _ (List.mem_append_left _ (List.mem_of_getElem? (i := 0) rfl))
theorem i_X11_trace_X11 : ∀ w ∈ wsX110, w ∈ wzX11_trace := fun _ h => List.mem_cons_of_mem _ (List.mem_append_right _ (List.mem_append_left _ (h)))
set_option maxHeartbeats 4000000 in
set_option maxRecDepth 100000 in
theorem c_X11_trace (l : Launch) (dC : Nat → ClassId) (dI : Nat → Nat → Nat) (sz : Nat) (h0 : Nat) (a : Int32) (b : Int32) (x_tape : Value) (x_told : Value) (x_code : Value) (x_reader : Value) (x_machine : Value) (x_length : Value) (x_latestFault : Value) (x_hasProgram : Value) : Met l yX11_trace wzX11_trace ({ frames := 1, cells := 0, slots := 0, locals := 60 }) (va_Pc [.ref h0, .int a, .int b] (zPre dC dI sz [(h0, .inr (10, [x_tape, x_told, x_code, x_reader, x_machine, x_length, x_latestFault, x_hasProgram, .int 0]))] [])) (va_Qi (fun (r : Int32) (_ : Unit) => r = -1) (fun (_ : Unit) (t : State) => zPost dC dI (va_A [(h0, .inr (10, [x_tape, x_told, x_code, x_reader, x_machine, x_length, x_latestFault, x_hasProgram, .int 0]))] sz) [] [] t) (va_A [(h0, .inr (10, [x_tape, x_told, x_code, x_reader, x_machine, x_length, x_latestFault, x_hasProgram, .int 0]))] sz)) 0 0 (va_A [(h0, .inr (10, [x_tape, x_told, x_code, x_reader, x_machine, x_length, x_latestFault, x_hasProgram, .int 0]))] sz) := by
  refine Met.ofW (cc := cX11_trace) (maxL := 3) (ret := (some .int)) (by decide) rfl ?_
  intro p e s m args below meth c s₁ B hml hv
  obtain ⟨rfl, hsz, hZ, hP, hK, hD0⟩ := hv
  have hx := B.exec
  have hb := B.bytes
  have hr := B.returns
  have hts := atoms_spec (ws := wzX11_trace) B.pre
  have hown : s.vm.findClass RX11 = some m.cls := findClass_of_methodNamed B.named
  have hlocks := B.notSynchronized
  subst hsz
  have hD := hD0.self (sz := s.heap.size)
  generalize hAe : va_A [(h0, .inr (10, [x_tape, x_told, x_code, x_reader, x_machine, x_length, x_latestFault, x_hasProgram, .int 0]))] s.heap.size = A at hD ⊢
  have hA : ∀ q : Nat, s.heap.size ≤ q → A q := fun q h => by rw [← hAe]; exact Or.inr h
  have hS : va_S A s.heap s.heap [] := va_S.rf
  have hP : va_P (dC, dI) vwCl [(h0, .inr (10, [x_tape, x_told, x_code, x_reader, x_machine, x_length, x_latestFault, x_hasProgram, .int 0]))] s.heap := hP
  have hl := lv_entry ([.ref h0, .int a, .int b]) (n := 3) (Nat.le_of_ble_eq_true rfl)
  rw [lg_entry_eq]
  generalize (lg_sl ([.ref h0, .int a, .int b]) ++ List.replicate (3 - (lg_sl ([.ref h0, .int a, .int b])).length) Slot.unset).toArray = ls at hl ⊢
  have hl : lv_has ls 3 [(0, .ref h0), (1, .int a), (2, .int b)] := hl
  refine lv_aload_n hx hb dX11_trace_0 rfl (lv_at hl 0 rfl) ?_
  refine va_get (D := (dC, dI)) (ci := 10) (v := .int 0) (C := RX11) (T := TX11) (N := 9) hx hb hts i_X11_trace_X11 hown hK hP 0 rfl rfl 8 (by decide) (hts (.fieldLink RX11 85 "StatementRules2" "hasRun" "Z") k_X11_trace_fieldLink_RX11_85_SR_hasRun_Z) (fun _ h9 => h9) rfl dX11_trace_1 ?_
  refine lv_if_eq (tgt := 31) hx hb dX11_trace_4 (by decide) (fun _ => ?_) (fun c9 => absurd (by decide) c9)
  refine lv_iconst (v := (-1)) hx hb dX11_trace_31 (by decide) ?_
  have hP9 := hP.sub (ws' := []) [] rfl
  have hD9 := hD.sub (ws' := []) [] (by decide) rfl
  have hK9 := hK.sub (tys' := []) [] rfl
  exact W.iret (v := (-1)) hx hb hr (fun t ht hW => ⟨⟨(-1), (), rfl, rfl, by rw [ht]; exact hP9, va_K.moved hW.alike hK9, hD9⟩, hS.F ht⟩) hS.2.2 dX11_trace_32
theorem k_X11_suppressed_fieldLink_RX11_85_SR_hasRun_Z : Cond.fieldLink RX11 85 "StatementRules2" "hasRun" "Z" ∈ wzX11_suppressed := List.mem_cons_of_mem _ (List.mem_append_left _ (List.mem_of_getElem? (i := 0) rfl))
theorem i_X11_suppressed_X11 : ∀ w ∈ wsX110, w ∈ wzX11_suppressed := fun _ h => List.mem_cons_of_mem _ (List.mem_append_right _ (List.mem_append_left _ (h)))
set_option maxHeartbeats 4000000 in
set_option maxRecDepth 100000 in
theorem c_X11_suppressed (l : Launch) (dC : Nat → ClassId) (dI : Nat → Nat → Nat) (sz : Nat) (h0 : Nat) (a : Int32) (b : Int32) (x_tape : Value) (x_told : Value) (x_code : Value) (x_reader : Value) (x_machine : Value) (x_length : Value) (x_latestFault : Value) (x_hasProgram : Value) : Met l yX11_suppressed wzX11_suppressed ({ frames := 1, cells := 0, slots := 0, locals := 60 }) (va_Pc [.ref h0, .int a, .int b] (zPre dC dI sz [(h0, .inr (10, [x_tape, x_told, x_code, x_reader, x_machine, x_length, x_latestFault, x_hasProgram, .int 0]))] [])) (va_Qi (fun (r : Int32) (_ : Unit) => r = -1) (fun (_ : Unit) (t : State) => zPost dC dI (va_A [(h0, .inr (10, [x_tape, x_told, x_code, x_reader, x_machine, x_length, x_latestFault, x_hasProgram, .int 0]))] sz) [] [] t) (va_A [(h0, .inr (10, [x_tape, x_told, x_code, x_reader, x_machine, x_length, x_latestFault, x_hasProgram, .int 0]))] sz)) 0 0 (va_A [(h0, .inr (10, [x_tape, x_told, x_code, x_reader, x_machine, x_length, x_latestFault, x_hasProgram, .int 0]))] sz) := by
  refine Met.ofW (cc := cX11_suppressed) (maxL := 4) (ret := (some .int)) (by decide) rfl ?_
  intro p e s m args below meth c s₁ B hml hv
  obtain ⟨rfl, hsz, hZ, hP, hK, hD0⟩ := hv
  have hx := B.exec
  have hb := B.bytes
  have hr := B.returns
  have hts := atoms_spec (ws := wzX11_suppressed) B.pre
  have hown : s.vm.findClass RX11 = some m.cls := findClass_of_methodNamed B.named
  have hlocks := B.notSynchronized
  subst hsz
  have hD := hD0.self (sz := s.heap.size)
  generalize hAe : va_A [(h0, .inr (10, [x_tape, x_told, x_code, x_reader, x_machine, x_length, x_latestFault, x_hasProgram, .int 0]))] s.heap.size = A at hD ⊢
  have hA : ∀ q : Nat, s.heap.size ≤ q → A q := fun q h => by rw [← hAe]; exact Or.inr h
  have hS : va_S A s.heap s.heap [] := va_S.rf
  have hP : va_P (dC, dI) vwCl [(h0, .inr (10, [x_tape, x_told, x_code, x_reader, x_machine, x_length, x_latestFault, x_hasProgram, .int 0]))] s.heap := hP
  have hl := lv_entry ([.ref h0, .int a, .int b]) (n := 4) (Nat.le_of_ble_eq_true rfl)
  rw [lg_entry_eq]
  generalize (lg_sl ([.ref h0, .int a, .int b]) ++ List.replicate (4 - (lg_sl ([.ref h0, .int a, .int b])).length) Slot.unset).toArray = ls at hl ⊢
  have hl : lv_has ls 4 [(0, .ref h0), (1, .int a), (2, .int b)] := hl
  refine lv_aload_n hx hb dX11_suppressed_0 rfl (lv_at hl 0 rfl) ?_
  refine va_get (D := (dC, dI)) (ci := 10) (v := .int 0) (C := RX11) (T := TX11) (N := 9) hx hb hts i_X11_suppressed_X11 hown hK hP 0 rfl rfl 8 (by decide) (hts (.fieldLink RX11 85 "StatementRules2" "hasRun" "Z") k_X11_suppressed_fieldLink_RX11_85_SR_hasRun_Z) (fun _ h9 => h9) rfl dX11_suppressed_1 ?_
  refine lv_if_eq (tgt := 17) hx hb dX11_suppressed_4 (by decide) (fun _ => ?_) (fun c9 => absurd (by decide) c9)
  refine lv_null hx hb dX11_suppressed_17 ?_
  refine lv_astore_nN (lv' := [(3, .null), (0, .ref h0), (1, .int a), (2, .int b)]) hx hb dX11_suppressed_18 rfl hl (by decide) rfl (fun ls hl => ?_)
  refine lv_aload_nN hx hb dX11_suppressed_19 rfl (lv_at hl 0 rfl) ?_
  refine lv_ifnullN (tgt := 44) hx hb dX11_suppressed_20 (by decide) ?_
  refine lv_iconst (v := (-1)) hx hb dX11_suppressed_44 (by decide) ?_
  have hP9 := hP.sub (ws' := []) [] rfl
  have hD9 := hD.sub (ws' := []) [] (by decide) rfl
  have hK9 := hK.sub (tys' := []) [] rfl
  exact W.iret (v := (-1)) hx hb hr (fun t ht hW => ⟨⟨(-1), (), rfl, rfl, by rw [ht]; exact hP9, va_K.moved hW.alike hK9, hD9⟩, hS.F ht⟩) hS.2.2 dX11_suppressed_45
end
