section
-- ===== PART A: goes FIRST, ahead of the names: the tables' words, and 'selects' of the private methods out of them =====
/-- a private method of a class that the tables say can be made, by its rows of tables_1 -/
def lw_okq (q : MethodName × Nat) : Prop := (q.1.cls ≠ "java/lang/invoke/MethodHandle" ∧ q.1.cls ≠ "java/lang/invoke/VarHandle") ∧ Cond.instantiable q.1.cls q.2 ∈ tables_1 ∧ Cond.privateMethod q.1 ∈ tables_1 ∧ Cond.instanceMethod q.1 ∈ tables_1
theorem lw_p0 : lw_okq (⟨"MeasuredVault$Hasher", "padMessage", "()V"⟩, 4) := ⟨⟨by decide +kernel, by decide +kernel⟩, List.mem_of_getElem? (i := 22) (by decide +kernel), List.mem_of_getElem? (i := 86) (by decide +kernel), List.mem_of_getElem? (i := 87) (by decide +kernel)⟩
theorem lw_p1 : lw_okq (⟨"MeasuredVault$Hasher", "spreadBlock", "(I)V"⟩, 4) := ⟨⟨by decide +kernel, by decide +kernel⟩, List.mem_of_getElem? (i := 22) (by decide +kernel), List.mem_of_getElem? (i := 99) (by decide +kernel), List.mem_of_getElem? (i := 100) (by decide +kernel)⟩
theorem lw_p2 : lw_okq (⟨"MeasuredVault$Hasher", "mixBlock", "()V"⟩, 4) := ⟨⟨by decide +kernel, by decide +kernel⟩, List.mem_of_getElem? (i := 22) (by decide +kernel), List.mem_of_getElem? (i := 107) (by decide +kernel), List.mem_of_getElem? (i := 108) (by decide +kernel)⟩
theorem lw_p3 : lw_okq (⟨"MeasuredVault", "hashNothing", "([B)V"⟩, 16) := ⟨⟨by decide +kernel, by decide +kernel⟩, List.mem_of_getElem? (i := 14) (by decide +kernel), List.mem_of_getElem? (i := 242) (by decide +kernel), List.mem_of_getElem? (i := 243) (by decide +kernel)⟩
theorem lw_p4 : lw_okq (⟨"MeasuredVault", "takeTapeHash", "()V"⟩, 16) := ⟨⟨by decide +kernel, by decide +kernel⟩, List.mem_of_getElem? (i := 14) (by decide +kernel), List.mem_of_getElem? (i := 330) (by decide +kernel), List.mem_of_getElem? (i := 331) (by decide +kernel)⟩
theorem lw_p5 : lw_okq (⟨"MeasuredVault", "tell", "([BI)I"⟩, 16) := ⟨⟨by decide +kernel, by decide +kernel⟩, List.mem_of_getElem? (i := 14) (by decide +kernel), List.mem_of_getElem? (i := 334) (by decide +kernel), List.mem_of_getElem? (i := 335) (by decide +kernel)⟩
theorem lw_p6 : lw_okq (⟨"MeasuredVault$Hasher", "putPad", "([BI)V"⟩, 4) := ⟨⟨by decide +kernel, by decide +kernel⟩, List.mem_of_getElem? (i := 22) (by decide +kernel), List.mem_of_getElem? (i := 387) (by decide +kernel), List.mem_of_getElem? (i := 388) (by decide +kernel)⟩
theorem lw_p7 : lw_okq (⟨"MeasuredVault$Secret", "findMark", "([BI)V"⟩, 5) := ⟨⟨by decide +kernel, by decide +kernel⟩, List.mem_of_getElem? (i := 63) (by decide +kernel), List.mem_of_getElem? (i := 397) (by decide +kernel), List.mem_of_getElem? (i := 398) (by decide +kernel)⟩
theorem lw_p8 : lw_okq (⟨"MeasuredVault", "openSession", "(I)LMeasuredVault$Session;"⟩, 16) := ⟨⟨by decide +kernel, by decide +kernel⟩, List.mem_of_getElem? (i := 14) (by decide +kernel), List.mem_of_getElem? (i := 417) (by decide +kernel), List.mem_of_getElem? (i := 418) (by decide +kernel)⟩
theorem lw_p9 : lw_okq (⟨"MeasuredVault", "chooseBranch", "(LMeasuredVault$Session;)I"⟩, 16) := ⟨⟨by decide +kernel, by decide +kernel⟩, List.mem_of_getElem? (i := 14) (by decide +kernel), List.mem_of_getElem? (i := 453) (by decide +kernel), List.mem_of_getElem? (i := 454) (by decide +kernel)⟩
theorem lw_p10 : lw_okq (⟨"MeasuredVault", "policyFrom", "(I)[B"⟩, 16) := ⟨⟨by decide +kernel, by decide +kernel⟩, List.mem_of_getElem? (i := 14) (by decide +kernel), List.mem_of_getElem? (i := 468) (by decide +kernel), List.mem_of_getElem? (i := 469) (by decide +kernel)⟩
theorem lw_p11 : lw_okq (⟨"MeasuredVault$Secret", "derive", "(II)V"⟩, 5) := ⟨⟨by decide +kernel, by decide +kernel⟩, List.mem_of_getElem? (i := 63) (by decide +kernel), List.mem_of_getElem? (i := 476) (by decide +kernel), List.mem_of_getElem? (i := 477) (by decide +kernel)⟩
theorem lw_p12 : lw_okq (⟨"MeasuredVault$Secret", "cover", "([BI)V"⟩, 5) := ⟨⟨by decide +kernel, by decide +kernel⟩, List.mem_of_getElem? (i := 63) (by decide +kernel), List.mem_of_getElem? (i := 480) (by decide +kernel), List.mem_of_getElem? (i := 481) (by decide +kernel)⟩
theorem lw_p13 : lw_okq (⟨"MeasuredVault", "keepUnwrapped", "()I"⟩, 16) := ⟨⟨by decide +kernel, by decide +kernel⟩, List.mem_of_getElem? (i := 14) (by decide +kernel), List.mem_of_getElem? (i := 494) (by decide +kernel), List.mem_of_getElem? (i := 495) (by decide +kernel)⟩
theorem lw_p14 : lw_okq (⟨"MeasuredVault", "objectAt", "(I)LMeasuredVault$Thing;"⟩, 16) := ⟨⟨by decide +kernel, by decide +kernel⟩, List.mem_of_getElem? (i := 14) (by decide +kernel), List.mem_of_getElem? (i := 502) (by decide +kernel), List.mem_of_getElem? (i := 503) (by decide +kernel)⟩
theorem lw_p15 : lw_okq (⟨"MeasuredVault", "ask", "(LMeasuredVault$Thing;II)I"⟩, 16) := ⟨⟨by decide +kernel, by decide +kernel⟩, List.mem_of_getElem? (i := 14) (by decide +kernel), List.mem_of_getElem? (i := 506) (by decide +kernel), List.mem_of_getElem? (i := 507) (by decide +kernel)⟩
def lw_privs_1 : List (MethodName × Nat) := [(⟨"MeasuredVault$Hasher", "padMessage", "()V"⟩, 4), (⟨"MeasuredVault$Hasher", "spreadBlock", "(I)V"⟩, 4), (⟨"MeasuredVault$Hasher", "mixBlock", "()V"⟩, 4), (⟨"MeasuredVault", "hashNothing", "([B)V"⟩, 16), (⟨"MeasuredVault", "takeTapeHash", "()V"⟩, 16), (⟨"MeasuredVault", "tell", "([BI)I"⟩, 16), (⟨"MeasuredVault$Hasher", "putPad", "([BI)V"⟩, 4), (⟨"MeasuredVault$Secret", "findMark", "([BI)V"⟩, 5), (⟨"MeasuredVault", "openSession", "(I)LMeasuredVault$Session;"⟩, 16), (⟨"MeasuredVault", "chooseBranch", "(LMeasuredVault$Session;)I"⟩, 16), (⟨"MeasuredVault", "policyFrom", "(I)[B"⟩, 16), (⟨"MeasuredVault$Secret", "derive", "(II)V"⟩, 5), (⟨"MeasuredVault$Secret", "cover", "([BI)V"⟩, 5), (⟨"MeasuredVault", "keepUnwrapped", "()I"⟩, 16), (⟨"MeasuredVault", "objectAt", "(I)LMeasuredVault$Thing;"⟩, 16), (⟨"MeasuredVault", "ask", "(LMeasuredVault$Thing;II)I"⟩, 16)]
theorem lw_r1 : ∀ q ∈ lw_privs_1, lw_okq q := List.forall_mem_cons.mpr ⟨lw_p0, List.forall_mem_cons.mpr ⟨lw_p1, List.forall_mem_cons.mpr ⟨lw_p2, List.forall_mem_cons.mpr ⟨lw_p3, List.forall_mem_cons.mpr ⟨lw_p4, List.forall_mem_cons.mpr ⟨lw_p5, List.forall_mem_cons.mpr ⟨lw_p6, List.forall_mem_cons.mpr ⟨lw_p7, List.forall_mem_cons.mpr ⟨lw_p8, List.forall_mem_cons.mpr ⟨lw_p9, List.forall_mem_cons.mpr ⟨lw_p10, List.forall_mem_cons.mpr ⟨lw_p11, List.forall_mem_cons.mpr ⟨lw_p12, List.forall_mem_cons.mpr ⟨lw_p13, List.forall_mem_cons.mpr ⟨lw_p14, List.forall_mem_cons.mpr ⟨lw_p15, fun _ h => absurd h List.not_mem_nil⟩⟩⟩⟩⟩⟩⟩⟩⟩⟩⟩⟩⟩⟩⟩⟩
theorem lw_p16 : lw_okq (⟨"MeasuredVault", "askKey", "([B)I"⟩, 16) := ⟨⟨by decide +kernel, by decide +kernel⟩, List.mem_of_getElem? (i := 14) (by decide +kernel), List.mem_of_getElem? (i := 510) (by decide +kernel), List.mem_of_getElem? (i := 511) (by decide +kernel)⟩
theorem lw_p17 : lw_okq (⟨"MeasuredVault", "valueAt", "(I)LMeasuredVault$Value;"⟩, 16) := ⟨⟨by decide +kernel, by decide +kernel⟩, List.mem_of_getElem? (i := 14) (by decide +kernel), List.mem_of_getElem? (i := 541) (by decide +kernel), List.mem_of_getElem? (i := 542) (by decide +kernel)⟩
theorem lw_p18 : lw_okq (⟨"MeasuredVault", "valueOf", "(II)LMeasuredVault$Value;"⟩, 16) := ⟨⟨by decide +kernel, by decide +kernel⟩, List.mem_of_getElem? (i := 14) (by decide +kernel), List.mem_of_getElem? (i := 549) (by decide +kernel), List.mem_of_getElem? (i := 550) (by decide +kernel)⟩
theorem lw_p19 : lw_okq (⟨"MeasuredVault", "writeTape", "(LMeasuredVault$Value;II)I"⟩, 16) := ⟨⟨by decide +kernel, by decide +kernel⟩, List.mem_of_getElem? (i := 14) (by decide +kernel), List.mem_of_getElem? (i := 553) (by decide +kernel), List.mem_of_getElem? (i := 554) (by decide +kernel)⟩
theorem lw_p20 : lw_okq (⟨"MeasuredVault", "askToChange", "(LMeasuredVault$Value;II)I"⟩, 16) := ⟨⟨by decide +kernel, by decide +kernel⟩, List.mem_of_getElem? (i := 14) (by decide +kernel), List.mem_of_getElem? (i := 557) (by decide +kernel), List.mem_of_getElem? (i := 558) (by decide +kernel)⟩
theorem lw_p21 : lw_okq (⟨"MeasuredVault", "chainTape", "(LMeasuredVault$Value;I)I"⟩, 16) := ⟨⟨by decide +kernel, by decide +kernel⟩, List.mem_of_getElem? (i := 14) (by decide +kernel), List.mem_of_getElem? (i := 578) (by decide +kernel), List.mem_of_getElem? (i := 579) (by decide +kernel)⟩
theorem lw_p22 : lw_okq (⟨"MeasuredVault", "freeObjects", "()V"⟩, 16) := ⟨⟨by decide +kernel, by decide +kernel⟩, List.mem_of_getElem? (i := 14) (by decide +kernel), List.mem_of_getElem? (i := 606) (by decide +kernel), List.mem_of_getElem? (i := 607) (by decide +kernel)⟩
theorem lw_p23 : lw_okq (⟨"MeasuredVault", "objectsHeld", "()I"⟩, 16) := ⟨⟨by decide +kernel, by decide +kernel⟩, List.mem_of_getElem? (i := 14) (by decide +kernel), List.mem_of_getElem? (i := 627) (by decide +kernel), List.mem_of_getElem? (i := 628) (by decide +kernel)⟩
theorem lw_p24 : lw_okq (⟨"MeasuredVault", "sessionsOpen", "()I"⟩, 16) := ⟨⟨by decide +kernel, by decide +kernel⟩, List.mem_of_getElem? (i := 14) (by decide +kernel), List.mem_of_getElem? (i := 631) (by decide +kernel), List.mem_of_getElem? (i := 632) (by decide +kernel)⟩
theorem lw_p25 : lw_okq (⟨"MeasuredVault", "valuesDefined", "()I"⟩, 16) := ⟨⟨by decide +kernel, by decide +kernel⟩, List.mem_of_getElem? (i := 14) (by decide +kernel), List.mem_of_getElem? (i := 635) (by decide +kernel), List.mem_of_getElem? (i := 636) (by decide +kernel)⟩
theorem lw_p26 : lw_okq (⟨"MeasuredVaultModel", "add", "(I)V"⟩, 38) := ⟨⟨by decide +kernel, by decide +kernel⟩, List.mem_of_getElem? (i := 642) (by decide +kernel), List.mem_of_getElem? (i := 648) (by decide +kernel), List.mem_of_getElem? (i := 649) (by decide +kernel)⟩
theorem lw_p27 : lw_okq (⟨"MeasuredVaultModel", "word", "(I)V"⟩, 38) := ⟨⟨by decide +kernel, by decide +kernel⟩, List.mem_of_getElem? (i := 642) (by decide +kernel), List.mem_of_getElem? (i := 652) (by decide +kernel), List.mem_of_getElem? (i := 653) (by decide +kernel)⟩
theorem lw_p28 : lw_okq (⟨"MeasuredVaultModel", "hashTo", "([BI)V"⟩, 38) := ⟨⟨by decide +kernel, by decide +kernel⟩, List.mem_of_getElem? (i := 642) (by decide +kernel), List.mem_of_getElem? (i := 656) (by decide +kernel), List.mem_of_getElem? (i := 657) (by decide +kernel)⟩
theorem lw_p29 : lw_okq (⟨"MeasuredVaultModel", "block", "(III)V"⟩, 38) := ⟨⟨by decide +kernel, by decide +kernel⟩, List.mem_of_getElem? (i := 642) (by decide +kernel), List.mem_of_getElem? (i := 663) (by decide +kernel), List.mem_of_getElem? (i := 664) (by decide +kernel)⟩
theorem lw_p30 : lw_okq (⟨"MeasuredVaultModel", "put", "(I)V"⟩, 38) := ⟨⟨by decide +kernel, by decide +kernel⟩, List.mem_of_getElem? (i := 642) (by decide +kernel), List.mem_of_getElem? (i := 793) (by decide +kernel), List.mem_of_getElem? (i := 794) (by decide +kernel)⟩
theorem lw_p31 : lw_okq (⟨"MeasuredVaultModel", "tapeHash", "([BI)V"⟩, 38) := ⟨⟨by decide +kernel, by decide +kernel⟩, List.mem_of_getElem? (i := 642) (by decide +kernel), List.mem_of_getElem? (i := 813) (by decide +kernel), List.mem_of_getElem? (i := 814) (by decide +kernel)⟩
def lw_privs_2 : List (MethodName × Nat) := [(⟨"MeasuredVault", "askKey", "([B)I"⟩, 16), (⟨"MeasuredVault", "valueAt", "(I)LMeasuredVault$Value;"⟩, 16), (⟨"MeasuredVault", "valueOf", "(II)LMeasuredVault$Value;"⟩, 16), (⟨"MeasuredVault", "writeTape", "(LMeasuredVault$Value;II)I"⟩, 16), (⟨"MeasuredVault", "askToChange", "(LMeasuredVault$Value;II)I"⟩, 16), (⟨"MeasuredVault", "chainTape", "(LMeasuredVault$Value;I)I"⟩, 16), (⟨"MeasuredVault", "freeObjects", "()V"⟩, 16), (⟨"MeasuredVault", "objectsHeld", "()I"⟩, 16), (⟨"MeasuredVault", "sessionsOpen", "()I"⟩, 16), (⟨"MeasuredVault", "valuesDefined", "()I"⟩, 16), (⟨"MeasuredVaultModel", "add", "(I)V"⟩, 38), (⟨"MeasuredVaultModel", "word", "(I)V"⟩, 38), (⟨"MeasuredVaultModel", "hashTo", "([BI)V"⟩, 38), (⟨"MeasuredVaultModel", "block", "(III)V"⟩, 38), (⟨"MeasuredVaultModel", "put", "(I)V"⟩, 38), (⟨"MeasuredVaultModel", "tapeHash", "([BI)V"⟩, 38)]
theorem lw_r2 : ∀ q ∈ lw_privs_2, lw_okq q := List.forall_mem_cons.mpr ⟨lw_p16, List.forall_mem_cons.mpr ⟨lw_p17, List.forall_mem_cons.mpr ⟨lw_p18, List.forall_mem_cons.mpr ⟨lw_p19, List.forall_mem_cons.mpr ⟨lw_p20, List.forall_mem_cons.mpr ⟨lw_p21, List.forall_mem_cons.mpr ⟨lw_p22, List.forall_mem_cons.mpr ⟨lw_p23, List.forall_mem_cons.mpr ⟨lw_p24, List.forall_mem_cons.mpr ⟨lw_p25, List.forall_mem_cons.mpr ⟨lw_p26, List.forall_mem_cons.mpr ⟨lw_p27, List.forall_mem_cons.mpr ⟨lw_p28, List.forall_mem_cons.mpr ⟨lw_p29, List.forall_mem_cons.mpr ⟨lw_p30, List.forall_mem_cons.mpr ⟨lw_p31, fun _ h => absurd h List.not_mem_nil⟩⟩⟩⟩⟩⟩⟩⟩⟩⟩⟩⟩⟩⟩⟩⟩
theorem lw_p32 : lw_okq (⟨"MeasuredVaultModel", "add", "([BII)V"⟩, 38) := ⟨⟨by decide +kernel, by decide +kernel⟩, List.mem_of_getElem? (i := 642) (by decide +kernel), List.mem_of_getElem? (i := 817) (by decide +kernel), List.mem_of_getElem? (i := 818) (by decide +kernel)⟩
theorem lw_p33 : lw_okq (⟨"MeasuredVaultModel", "told", "()I"⟩, 38) := ⟨⟨by decide +kernel, by decide +kernel⟩, List.mem_of_getElem? (i := 642) (by decide +kernel), List.mem_of_getElem? (i := 821) (by decide +kernel), List.mem_of_getElem? (i := 822) (by decide +kernel)⟩
theorem lw_p34 : lw_okq (⟨"MeasuredVaultModel", "change", "()V"⟩, 38) := ⟨⟨by decide +kernel, by decide +kernel⟩, List.mem_of_getElem? (i := 642) (by decide +kernel), List.mem_of_getElem? (i := 833) (by decide +kernel), List.mem_of_getElem? (i := 834) (by decide +kernel)⟩
theorem lw_p35 : lw_okq (⟨"MeasuredVaultModel", "stateTo", "(I[BI)V"⟩, 38) := ⟨⟨by decide +kernel, by decide +kernel⟩, List.mem_of_getElem? (i := 642) (by decide +kernel), List.mem_of_getElem? (i := 845) (by decide +kernel), List.mem_of_getElem? (i := 846) (by decide +kernel)⟩
theorem lw_p36 : lw_okq (⟨"MeasuredVaultModel", "tell", "(I)V"⟩, 38) := ⟨⟨by decide +kernel, by decide +kernel⟩, List.mem_of_getElem? (i := 642) (by decide +kernel), List.mem_of_getElem? (i := 853) (by decide +kernel), List.mem_of_getElem? (i := 854) (by decide +kernel)⟩
theorem lw_p37 : lw_okq (⟨"MeasuredVaultModel", "tellWord", "(I)V"⟩, 38) := ⟨⟨by decide +kernel, by decide +kernel⟩, List.mem_of_getElem? (i := 642) (by decide +kernel), List.mem_of_getElem? (i := 857) (by decide +kernel), List.mem_of_getElem? (i := 858) (by decide +kernel)⟩
theorem lw_p38 : lw_okq (⟨"MeasuredVaultModel", "macSeed", "(I)V"⟩, 38) := ⟨⟨by decide +kernel, by decide +kernel⟩, List.mem_of_getElem? (i := 642) (by decide +kernel), List.mem_of_getElem? (i := 861) (by decide +kernel), List.mem_of_getElem? (i := 862) (by decide +kernel)⟩
theorem lw_p39 : lw_okq (⟨"MeasuredVaultModel", "macTo", "([BI)V"⟩, 38) := ⟨⟨by decide +kernel, by decide +kernel⟩, List.mem_of_getElem? (i := 642) (by decide +kernel), List.mem_of_getElem? (i := 865) (by decide +kernel), List.mem_of_getElem? (i := 866) (by decide +kernel)⟩
theorem lw_p40 : lw_okq (⟨"MeasuredVaultModel", "opened", "(I)Z"⟩, 38) := ⟨⟨by decide +kernel, by decide +kernel⟩, List.mem_of_getElem? (i := 642) (by decide +kernel), List.mem_of_getElem? (i := 880) (by decide +kernel), List.mem_of_getElem? (i := 881) (by decide +kernel)⟩
theorem lw_p41 : lw_okq (⟨"MeasuredVaultModel", "begin", "(II)V"⟩, 38) := ⟨⟨by decide +kernel, by decide +kernel⟩, List.mem_of_getElem? (i := 642) (by decide +kernel), List.mem_of_getElem? (i := 884) (by decide +kernel), List.mem_of_getElem? (i := 885) (by decide +kernel)⟩
theorem lw_p42 : lw_okq (⟨"MeasuredVaultModel", "mix", "([BIII)V"⟩, 38) := ⟨⟨by decide +kernel, by decide +kernel⟩, List.mem_of_getElem? (i := 642) (by decide +kernel), List.mem_of_getElem? (i := 915) (by decide +kernel), List.mem_of_getElem? (i := 916) (by decide +kernel)⟩
theorem lw_p43 : lw_okq (⟨"MeasuredVaultModel", "number", "(I)V"⟩, 38) := ⟨⟨by decide +kernel, by decide +kernel⟩, List.mem_of_getElem? (i := 642) (by decide +kernel), List.mem_of_getElem? (i := 919) (by decide +kernel), List.mem_of_getElem? (i := 920) (by decide +kernel)⟩
theorem lw_p44 : lw_okq (⟨"MeasuredVaultModel", "sealTo", "([BII[BI)V"⟩, 38) := ⟨⟨by decide +kernel, by decide +kernel⟩, List.mem_of_getElem? (i := 642) (by decide +kernel), List.mem_of_getElem? (i := 923) (by decide +kernel), List.mem_of_getElem? (i := 924) (by decide +kernel)⟩
theorem lw_p45 : lw_okq (⟨"MeasuredVaultModel", "isObject", "(I)Z"⟩, 38) := ⟨⟨by decide +kernel, by decide +kernel⟩, List.mem_of_getElem? (i := 642) (by decide +kernel), List.mem_of_getElem? (i := 935) (by decide +kernel), List.mem_of_getElem? (i := 936) (by decide +kernel)⟩
theorem lw_p46 : lw_okq (⟨"MeasuredVaultModel", "by", "(III)I"⟩, 38) := ⟨⟨by decide +kernel, by decide +kernel⟩, List.mem_of_getElem? (i := 642) (by decide +kernel), List.mem_of_getElem? (i := 939) (by decide +kernel), List.mem_of_getElem? (i := 940) (by decide +kernel)⟩
theorem lw_p47 : lw_okq (⟨"MeasuredVaultModel", "compared", "([BI)I"⟩, 38) := ⟨⟨by decide +kernel, by decide +kernel⟩, List.mem_of_getElem? (i := 642) (by decide +kernel), List.mem_of_getElem? (i := 943) (by decide +kernel), List.mem_of_getElem? (i := 944) (by decide +kernel)⟩
def lw_privs_3 : List (MethodName × Nat) := [(⟨"MeasuredVaultModel", "add", "([BII)V"⟩, 38), (⟨"MeasuredVaultModel", "told", "()I"⟩, 38), (⟨"MeasuredVaultModel", "change", "()V"⟩, 38), (⟨"MeasuredVaultModel", "stateTo", "(I[BI)V"⟩, 38), (⟨"MeasuredVaultModel", "tell", "(I)V"⟩, 38), (⟨"MeasuredVaultModel", "tellWord", "(I)V"⟩, 38), (⟨"MeasuredVaultModel", "macSeed", "(I)V"⟩, 38), (⟨"MeasuredVaultModel", "macTo", "([BI)V"⟩, 38), (⟨"MeasuredVaultModel", "opened", "(I)Z"⟩, 38), (⟨"MeasuredVaultModel", "begin", "(II)V"⟩, 38), (⟨"MeasuredVaultModel", "mix", "([BIII)V"⟩, 38), (⟨"MeasuredVaultModel", "number", "(I)V"⟩, 38), (⟨"MeasuredVaultModel", "sealTo", "([BII[BI)V"⟩, 38), (⟨"MeasuredVaultModel", "isObject", "(I)Z"⟩, 38), (⟨"MeasuredVaultModel", "by", "(III)I"⟩, 38), (⟨"MeasuredVaultModel", "compared", "([BI)I"⟩, 38)]
theorem lw_r3 : ∀ q ∈ lw_privs_3, lw_okq q := List.forall_mem_cons.mpr ⟨lw_p32, List.forall_mem_cons.mpr ⟨lw_p33, List.forall_mem_cons.mpr ⟨lw_p34, List.forall_mem_cons.mpr ⟨lw_p35, List.forall_mem_cons.mpr ⟨lw_p36, List.forall_mem_cons.mpr ⟨lw_p37, List.forall_mem_cons.mpr ⟨lw_p38, List.forall_mem_cons.mpr ⟨lw_p39, List.forall_mem_cons.mpr ⟨lw_p40, List.forall_mem_cons.mpr ⟨lw_p41, List.forall_mem_cons.mpr ⟨lw_p42, List.forall_mem_cons.mpr ⟨lw_p43, List.forall_mem_cons.mpr ⟨lw_p44, List.forall_mem_cons.mpr ⟨lw_p45, List.forall_mem_cons.mpr ⟨lw_p46, List.forall_mem_cons.mpr ⟨lw_p47, fun _ h => absurd h List.not_mem_nil⟩⟩⟩⟩⟩⟩⟩⟩⟩⟩⟩⟩⟩⟩⟩⟩
theorem lw_p48 : lw_okq (⟨"MeasuredVaultModel", "show", "(I)I"⟩, 38) := ⟨⟨by decide +kernel, by decide +kernel⟩, List.mem_of_getElem? (i := 642) (by decide +kernel), List.mem_of_getElem? (i := 947) (by decide +kernel), List.mem_of_getElem? (i := 948) (by decide +kernel)⟩
theorem lw_p49 : lw_okq (⟨"MeasuredVaultModel", "owners", "()I"⟩, 38) := ⟨⟨by decide +kernel, by decide +kernel⟩, List.mem_of_getElem? (i := 642) (by decide +kernel), List.mem_of_getElem? (i := 959) (by decide +kernel), List.mem_of_getElem? (i := 960) (by decide +kernel)⟩
theorem lw_p50 : lw_okq (⟨"MeasuredVaultModel", "thing", "(II)I"⟩, 38) := ⟨⟨by decide +kernel, by decide +kernel⟩, List.mem_of_getElem? (i := 642) (by decide +kernel), List.mem_of_getElem? (i := 967) (by decide +kernel), List.mem_of_getElem? (i := 968) (by decide +kernel)⟩
def lw_privs_4 : List (MethodName × Nat) := [(⟨"MeasuredVaultModel", "show", "(I)I"⟩, 38), (⟨"MeasuredVaultModel", "owners", "()I"⟩, 38), (⟨"MeasuredVaultModel", "thing", "(II)I"⟩, 38)]
theorem lw_r4 : ∀ q ∈ lw_privs_4, lw_okq q := List.forall_mem_cons.mpr ⟨lw_p48, List.forall_mem_cons.mpr ⟨lw_p49, List.forall_mem_cons.mpr ⟨lw_p50, fun _ h => absurd h List.not_mem_nil⟩⟩⟩
def lw_privs : List (MethodName × Nat) := lw_privs_1 ++ (lw_privs_2 ++ (lw_privs_3 ++ (lw_privs_4)))
def lw_tbl : List Cond := k2_sels lw_privs ++ tables_1
theorem lw_privs_ok : ∀ q ∈ lw_privs, lw_okq q := by
  show ∀ q ∈ lw_privs_1 ++ (lw_privs_2 ++ (lw_privs_3 ++ (lw_privs_4))), lw_okq q
  exact List.forall_mem_append.mpr ⟨lw_r1, List.forall_mem_append.mpr ⟨lw_r2, List.forall_mem_append.mpr ⟨lw_r3, lw_r4⟩⟩⟩

/-! the words that a method may take along: those of lw_tbl that a callee may be given -/
def mv_ws : List Cond := lw_tbl.filter goodWord
theorem mv_wt {w : Cond} (i : Nat) (h : tables_1[i]? = some w) (g : goodWord w = true) : w ∈ mv_ws :=
  List.mem_filter.mpr ⟨List.mem_append_right _ (List.mem_of_getElem? h), g⟩
theorem mv_wp {w : Cond} (i : Nat) (h : (k2_sels lw_privs)[i]? = some w) (g : goodWord w = true) : w ∈ mv_ws :=
  List.mem_filter.mpr ⟨List.mem_append_left _ (List.mem_of_getElem? h), g⟩
theorem mv_wa (ws : List Cond) (ps : List Nat) (hp : ws = ps.filterMap (fun i => tables_1[i]?)) (h : ws.all goodWord = true) : ∀ w ∈ ws, w ∈ mv_ws := by
  intro w hw
  have h1 := List.all_eq_true.mp h w hw
  rw [hp] at hw
  obtain ⟨i, -, hi⟩ := List.mem_filterMap.mp hw
  exact mv_wt i hi h1
/-- a callee's words among a caller's -/
theorem mv_gi {cd cy : Cond} (hc : cy ∈ mv_ws) : GoodIn (cd :: mv_ws) (cy :: mv_ws) := by
  intro w hw
  rcases List.mem_cons.mp hw with h | h
  · subst h
    exact ⟨List.mem_cons_of_mem _ hc, good_of_word (List.mem_filter.mp hc).2⟩
  · exact ⟨List.mem_cons_of_mem _ h, good_of_word (List.mem_filter.mp h).2⟩
theorem mv_gl {cy : Cond} (hc : cy ∈ mv_ws) : GoodIn lw_tbl (cy :: mv_ws) := by
  intro w hw
  rcases List.mem_cons.mp hw with h | h
  · subst h
    exact ⟨(List.mem_filter.mp hc).1, good_of_word (List.mem_filter.mp hc).2⟩
  · exact ⟨(List.mem_filter.mp h).1, good_of_word (List.mem_filter.mp h).2⟩
end
section
def RX0 : String := "MeasuredVault$Bytes"
def TX0 : u_T := fun k => match k with
  | 0 => ("MeasuredVault$Bytes", "held", "[B", true)
  | _ => ("MeasuredVault$Bytes", "size", "I", false)
def tyX0 : Nat → FieldType := fun k => match k with
  | 0 => .array .byte
  | _ => .int
theorem nmX0 : ∀ a, a < 2 → ∀ b, b < 2 → a ≠ b → (TX0 a).2.1 ≠ (TX0 b).2.1 := by decide +kernel
theorem tyX0_ok : ∀ k, k < 2 → parseFieldDescriptor (TX0 k).2.2.1 = some (tyX0 k) := by decide +kernel
abbrev cX0_init : ByteArray := prog_2_method_1_code
def yX0_init : MethodName := ⟨RX0, "<init>", "(I)V"⟩
abbrev cX0_hasRoomFor : ByteArray := prog_2_method_2_code
def yX0_hasRoomFor : MethodName := ⟨RX0, "hasRoomFor", "(I)Z"⟩
abbrev cX0_put : ByteArray := prog_2_method_3_code
def yX0_put : MethodName := ⟨RX0, "put", "(I)V"⟩
abbrev cX0_putInt : ByteArray := prog_2_method_4_code
def yX0_putInt : MethodName := ⟨RX0, "putInt", "(I)V"⟩
abbrev cX0_intAt : ByteArray := prog_2_method_5_code
def yX0_intAt : MethodName := ⟨RX0, "intAt", "(I)I"⟩
abbrev cX0_putAll : ByteArray := prog_2_method_6_code
def yX0_putAll : MethodName := ⟨RX0, "putAll", "([BI)V"⟩
def RX1 : String := "MeasuredVault$Hasher"
def TX1 : u_T := fun k => match k with
  | 0 => ("MeasuredVault$Hasher", "message", "LMeasuredVault$Bytes;", true)
  | 1 => ("MeasuredVault$Hasher", "sum", "[I", true)
  | 2 => ("MeasuredVault$Hasher", "words", "[I", true)
  | _ => ("MeasuredVault$Hasher", "innerHash", "[B", true)
def tyX1 : Nat → FieldType := fun k => match k with
  | 0 => .object "MeasuredVault$Bytes"
  | 1 => .array .int
  | 2 => .array .int
  | _ => .array .byte
theorem nmX1 : ∀ a, a < 4 → ∀ b, b < 4 → a ≠ b → (TX1 a).2.1 ≠ (TX1 b).2.1 := by decide +kernel
theorem tyX1_ok : ∀ k, k < 4 → parseFieldDescriptor (TX1 k).2.2.1 = some (tyX1 k) := by decide +kernel
abbrev cX1_init : ByteArray := prog_3_method_1_code
def yX1_init : MethodName := ⟨RX1, "<init>", "()V"⟩
abbrev cX1_begin : ByteArray := prog_3_method_2_code
def yX1_begin : MethodName := ⟨RX1, "begin", "()LMeasuredVault$Bytes;"⟩
abbrev cX1_beginKeyed : ByteArray := prog_3_method_3_code
def yX1_beginKeyed : MethodName := ⟨RX1, "beginKeyed", "([B)LMeasuredVault$Bytes;"⟩
abbrev cX1_finishKeyed : ByteArray := prog_3_method_4_code
def yX1_finishKeyed : MethodName := ⟨RX1, "finishKeyed", "([B[B)V"⟩
abbrev cX1_finish : ByteArray := prog_3_method_5_code
def yX1_finish : MethodName := ⟨RX1, "finish", "([B)V"⟩
abbrev cX1_putPad : ByteArray := prog_3_method_6_code
def yX1_putPad : MethodName := ⟨RX1, "putPad", "([BI)V"⟩
abbrev cX1_padMessage : ByteArray := prog_3_method_7_code
def yX1_padMessage : MethodName := ⟨RX1, "padMessage", "()V"⟩
abbrev cX1_spreadBlock : ByteArray := prog_3_method_8_code
def yX1_spreadBlock : MethodName := ⟨RX1, "spreadBlock", "(I)V"⟩
abbrev cX1_mixBlock : ByteArray := prog_3_method_9_code
def yX1_mixBlock : MethodName := ⟨RX1, "mixBlock", "()V"⟩
def RX2 : String := "MeasuredVault$Registers"
def TX2 : u_T := fun k => match k with
  | 0 => ("MeasuredVault$Registers", "row", "[B", true)
  | 1 => ("MeasuredVault$Registers", "one", "[B", true)
  | _ => ("MeasuredVault$Registers", "changes", "I", false)
def tyX2 : Nat → FieldType := fun k => match k with
  | 0 => .array .byte
  | 1 => .array .byte
  | _ => .int
theorem nmX2 : ∀ a, a < 3 → ∀ b, b < 3 → a ≠ b → (TX2 a).2.1 ≠ (TX2 b).2.1 := by decide +kernel
theorem tyX2_ok : ∀ k, k < 3 → parseFieldDescriptor (TX2 k).2.2.1 = some (tyX2 k) := by decide +kernel
abbrev cX2_init : ByteArray := prog_4_method_1_code
def yX2_init : MethodName := ⟨RX2, "<init>", "()V"⟩
abbrev cX2_mixIn : ByteArray := prog_4_method_2_code
def yX2_mixIn : MethodName := ⟨RX2, "mixIn", "(I[BLMeasuredVault$Hasher;)V"⟩
abbrev cX2_zero : ByteArray := prog_4_method_3_code
def yX2_zero : MethodName := ⟨RX2, "zero", "(I)V"⟩
abbrev cX2_measure : ByteArray := prog_4_method_4_code
def yX2_measure : MethodName := ⟨RX2, "measure", "(ILMeasuredVault$Hasher;[B)V"⟩
def RX3 : String := "MeasuredVault$Secret"
def TX3 : u_T := fun k => match k with
  | 0 => ("MeasuredVault$Secret", "hasher", "LMeasuredVault$Hasher;", true)
  | 1 => ("MeasuredVault$Secret", "seed", "[B", true)
  | 2 => ("MeasuredVault$Secret", "derived", "[B", true)
  | 3 => ("MeasuredVault$Secret", "mark", "[B", true)
  | _ => ("MeasuredVault$Secret", "blobsMade", "I", false)
def tyX3 : Nat → FieldType := fun k => match k with
  | 0 => .object "MeasuredVault$Hasher"
  | 1 => .array .byte
  | 2 => .array .byte
  | 3 => .array .byte
  | _ => .int
theorem nmX3 : ∀ a, a < 5 → ∀ b, b < 5 → a ≠ b → (TX3 a).2.1 ≠ (TX3 b).2.1 := by decide +kernel
theorem tyX3_ok : ∀ k, k < 5 → parseFieldDescriptor (TX3 k).2.2.1 = some (tyX3 k) := by decide +kernel
abbrev cX3_init : ByteArray := prog_5_method_1_code
def yX3_init : MethodName := ⟨RX3, "<init>", "(LMeasuredVault$Hasher;I)V"⟩
abbrev cX3_renew : ByteArray := prog_5_method_2_code
def yX3_renew : MethodName := ⟨RX3, "renew", "()V"⟩
abbrev cX3_sign : ByteArray := prog_5_method_3_code
def yX3_sign : MethodName := ⟨RX3, "sign", "(LMeasuredVault$Bytes;)V"⟩
abbrev cX3_wrap : ByteArray := prog_5_method_4_code
def yX3_wrap : MethodName := ⟨RX3, "wrap", "(LMeasuredVault$Bytes;[B[BLMeasuredVault$Bytes;)V"⟩
abbrev cX3_unwrap : ByteArray := prog_5_method_5_code
def yX3_unwrap : MethodName := ⟨RX3, "unwrap", "(LMeasuredVault$Bytes;)Z"⟩
abbrev cX3_derive : ByteArray := prog_5_method_6_code
def yX3_derive : MethodName := ⟨RX3, "derive", "(II)V"⟩
abbrev cX3_findMark : ByteArray := prog_5_method_7_code
def yX3_findMark : MethodName := ⟨RX3, "findMark", "([BI)V"⟩
abbrev cX3_cover : ByteArray := prog_5_method_8_code
def yX3_cover : MethodName := ⟨RX3, "cover", "([BI)V"⟩
def RX4 : String := "MeasuredVault$Session"
def TX4 : u_T := fun k => match k with
  | 0 => ("MeasuredVault$Session", "digest", "[B", true)
  | 1 => ("MeasuredVault$Session", "isOpen", "Z", false)
  | 2 => ("MeasuredVault$Session", "asksAuth", "Z", false)
  | 3 => ("MeasuredVault$Session", "code", "I", false)
  | 4 => ("MeasuredVault$Session", "asksRegisters", "Z", false)
  | 5 => ("MeasuredVault$Session", "changesThen", "I", false)
  | 6 => ("MeasuredVault$Session", "asksTime", "Z", false)
  | _ => ("MeasuredVault$Session", "latest", "I", false)
def tyX4 : Nat → FieldType := fun k => match k with
  | 0 => .array .byte
  | 1 => .boolean
  | 2 => .boolean
  | 3 => .int
  | 4 => .boolean
  | 5 => .int
  | 6 => .boolean
  | _ => .int
theorem nmX4 : ∀ a, a < 8 → ∀ b, b < 8 → a ≠ b → (TX4 a).2.1 ≠ (TX4 b).2.1 := by decide +kernel
theorem tyX4_ok : ∀ k, k < 8 → parseFieldDescriptor (TX4 k).2.2.1 = some (tyX4 k) := by decide +kernel
abbrev cX4_init : ByteArray := prog_6_method_1_code
def yX4_init : MethodName := ⟨RX4, "<init>", "()V"⟩
abbrev cX4_begin : ByteArray := prog_6_method_2_code
def yX4_begin : MethodName := ⟨RX4, "begin", "()V"⟩
abbrev cX4_startStep : ByteArray := prog_6_method_3_code
def yX4_startStep : MethodName := ⟨RX4, "startStep", "(LMeasuredVault$Hasher;I)LMeasuredVault$Bytes;"⟩
abbrev cX4_bindRegisters : ByteArray := prog_6_method_4_code
def yX4_bindRegisters : MethodName := ⟨RX4, "bindRegisters", "(I)V"⟩
abbrev cX4_bindTime : ByteArray := prog_6_method_5_code
def yX4_bindTime : MethodName := ⟨RX4, "bindTime", "(I)V"⟩
abbrev cX4_holds : ByteArray := prog_6_method_6_code
def yX4_holds : MethodName := ⟨RX4, "holds", "(III)Z"⟩
def RX5 : String := "MeasuredVault$Thing"
def TX5 : u_T := fun k => match k with
  | 0 => ("MeasuredVault$Thing", "auth", "[B", true)
  | 1 => ("MeasuredVault$Thing", "policy", "[B", true)
  | 2 => ("MeasuredVault$Thing", "data", "LMeasuredVault$Bytes;", true)
  | _ => ("MeasuredVault$Thing", "present", "Z", false)
def tyX5 : Nat → FieldType := fun k => match k with
  | 0 => .array .byte
  | 1 => .array .byte
  | 2 => .object "MeasuredVault$Bytes"
  | _ => .boolean
theorem nmX5 : ∀ a, a < 4 → ∀ b, b < 4 → a ≠ b → (TX5 a).2.1 ≠ (TX5 b).2.1 := by decide +kernel
theorem tyX5_ok : ∀ k, k < 4 → parseFieldDescriptor (TX5 k).2.2.1 = some (tyX5 k) := by decide +kernel
abbrev cX5_init : ByteArray := prog_7_method_1_code
def yX5_init : MethodName := ⟨RX5, "<init>", "(I)V"⟩
def RX6 : String := "MeasuredVault$Value"
def TX6 : u_T := fun k => match k with
  | 0 => ("MeasuredVault$Value", "thing", "LMeasuredVault$Thing;", true)
  | 1 => ("MeasuredVault$Value", "kind", "I", false)
  | 2 => ("MeasuredVault$Value", "written", "Z", false)
  | 3 => ("MeasuredVault$Value", "isShut", "Z", false)
  | _ => ("MeasuredVault$Value", "number", "J", false)
def tyX6 : Nat → FieldType := fun k => match k with
  | 0 => .object "MeasuredVault$Thing"
  | 1 => .int
  | 2 => .boolean
  | 3 => .boolean
  | _ => .long
theorem nmX6 : ∀ a, a < 5 → ∀ b, b < 5 → a ≠ b → (TX6 a).2.1 ≠ (TX6 b).2.1 := by decide +kernel
theorem tyX6_ok : ∀ k, k < 5 → parseFieldDescriptor (TX6 k).2.2.1 = some (tyX6 k) := by decide +kernel
abbrev cX6_init : ByteArray := prog_8_method_1_code
def yX6_init : MethodName := ⟨RX6, "<init>", "()V"⟩
abbrev cX6_mayBe : ByteArray := prog_8_method_2_code
def yX6_mayBe : MethodName := ⟨RX6, "mayBe", "(II)Z"⟩
abbrev cX6_begin : ByteArray := prog_8_method_3_code
def yX6_begin : MethodName := ⟨RX6, "begin", "(II)V"⟩
abbrev cX6_spellNumber : ByteArray := prog_8_method_4_code
def yX6_spellNumber : MethodName := ⟨RX6, "spellNumber", "()V"⟩
def RX7 : String := "MeasuredVault"
def TX7 : u_T := fun k => match k with
  | 0 => ("MeasuredVault", "hasher", "LMeasuredVault$Hasher;", true)
  | 1 => ("MeasuredVault", "secret", "LMeasuredVault$Secret;", true)
  | 2 => ("MeasuredVault", "tape", "LMeasuredVault$Bytes;", true)
  | 3 => ("MeasuredVault", "out", "LMeasuredVault$Bytes;", true)
  | 4 => ("MeasuredVault", "theKey", "[B", true)
  | 5 => ("MeasuredVault", "ownerAuth", "[B", true)
  | 6 => ("MeasuredVault", "noPolicy", "[B", true)
  | 7 => ("MeasuredVault", "scratch", "[B", true)
  | 8 => ("MeasuredVault", "registers", "LMeasuredVault$Registers;", true)
  | 9 => ("MeasuredVault", "sessions", "[LMeasuredVault$Session;", true)
  | 10 => ("MeasuredVault", "objects", "[LMeasuredVault$Thing;", true)
  | 11 => ("MeasuredVault", "values", "[LMeasuredVault$Value;", true)
  | 12 => ("MeasuredVault", "greatest", "J", false)
  | 13 => ("MeasuredVault", "clock", "I", false)
  | 14 => ("MeasuredVault", "restarts", "I", false)
  | _ => ("MeasuredVault", "failures", "I", false)
def tyX7 : Nat → FieldType := fun k => match k with
  | 0 => .object "MeasuredVault$Hasher"
  | 1 => .object "MeasuredVault$Secret"
  | 2 => .object "MeasuredVault$Bytes"
  | 3 => .object "MeasuredVault$Bytes"
  | 4 => .array .byte
  | 5 => .array .byte
  | 6 => .array .byte
  | 7 => .array .byte
  | 8 => .object "MeasuredVault$Registers"
  | 9 => .array (.object "MeasuredVault$Session")
  | 10 => .array (.object "MeasuredVault$Thing")
  | 11 => .array (.object "MeasuredVault$Value")
  | 12 => .long
  | 13 => .int
  | 14 => .int
  | _ => .int
theorem nmX7 : ∀ a, a < 16 → ∀ b, b < 16 → a ≠ b → (TX7 a).2.1 ≠ (TX7 b).2.1 := by decide +kernel
theorem tyX7_ok : ∀ k, k < 16 → parseFieldDescriptor (TX7 k).2.2.1 = some (tyX7 k) := by decide +kernel
abbrev cX7_init : ByteArray := prog_1_method_1_code
def yX7_init : MethodName := ⟨RX7, "<init>", "(I)V"⟩
abbrev cX7_feed : ByteArray := prog_1_method_2_code
def yX7_feed : MethodName := ⟨RX7, "feed", "(IIIII)I"⟩
abbrev cX7_end : ByteArray := prog_1_method_3_code
def yX7_end : MethodName := ⟨RX7, "end", "(I)I"⟩
abbrev cX7_octet : ByteArray := prog_1_method_4_code
def yX7_octet : MethodName := ⟨RX7, "octet", "(I)I"⟩
abbrev cX7_back : ByteArray := prog_1_method_5_code
def yX7_back : MethodName := ⟨RX7, "back", "()I"⟩
abbrev cX7_hash : ByteArray := prog_1_method_6_code
def yX7_hash : MethodName := ⟨RX7, "hash", "()I"⟩
abbrev cX7_key : ByteArray := prog_1_method_7_code
def yX7_key : MethodName := ⟨RX7, "key", "()I"⟩
abbrev cX7_extend : ByteArray := prog_1_method_8_code
def yX7_extend : MethodName := ⟨RX7, "extend", "(I)I"⟩
abbrev cX7_reset : ByteArray := prog_1_method_9_code
def yX7_reset : MethodName := ⟨RX7, "reset", "(I)I"⟩
abbrev cX7_state : ByteArray := prog_1_method_10_code
def yX7_state : MethodName := ⟨RX7, "state", "(I)I"⟩
abbrev cX7_quote : ByteArray := prog_1_method_11_code
def yX7_quote : MethodName := ⟨RX7, "quote", "(I)I"⟩
abbrev cX7_open : ByteArray := prog_1_method_12_code
def yX7_open : MethodName := ⟨RX7, "open", "(I)I"⟩
abbrev cX7_policyState : ByteArray := prog_1_method_13_code
def yX7_policyState : MethodName := ⟨RX7, "policyState", "(II)I"⟩
abbrev cX7_policyAuth : ByteArray := prog_1_method_14_code
def yX7_policyAuth : MethodName := ⟨RX7, "policyAuth", "(I)I"⟩
abbrev cX7_policyCode : ByteArray := prog_1_method_15_code
def yX7_policyCode : MethodName := ⟨RX7, "policyCode", "(II)I"⟩
abbrev cX7_policyTime : ByteArray := prog_1_method_16_code
def yX7_policyTime : MethodName := ⟨RX7, "policyTime", "(II)I"⟩
abbrev cX7_policyOr : ByteArray := prog_1_method_17_code
def yX7_policyOr : MethodName := ⟨RX7, "policyOr", "(I)I"⟩
abbrev cX7_digest : ByteArray := prog_1_method_18_code
def yX7_digest : MethodName := ⟨RX7, "digest", "(I)I"⟩
abbrev cX7_seal : ByteArray := prog_1_method_19_code
def yX7_seal : MethodName := ⟨RX7, "seal", "(I)I"⟩
abbrev cX7_load : ByteArray := prog_1_method_20_code
def yX7_load : MethodName := ⟨RX7, "load", "()I"⟩
abbrev cX7_unseal : ByteArray := prog_1_method_21_code
def yX7_unseal : MethodName := ⟨RX7, "unseal", "(II)I"⟩
abbrev cX7_flush : ByteArray := prog_1_method_22_code
def yX7_flush : MethodName := ⟨RX7, "flush", "(I)I"⟩
abbrev cX7_define : ByteArray := prog_1_method_23_code
def yX7_define : MethodName := ⟨RX7, "define", "(IIII)I"⟩
abbrev cX7_undefine : ByteArray := prog_1_method_24_code
def yX7_undefine : MethodName := ⟨RX7, "undefine", "(I)I"⟩
abbrev cX7_write : ByteArray := prog_1_method_25_code
def yX7_write : MethodName := ⟨RX7, "write", "(III)I"⟩
abbrev cX7_count : ByteArray := prog_1_method_26_code
def yX7_count : MethodName := ⟨RX7, "count", "(II)I"⟩
abbrev cX7_chain : ByteArray := prog_1_method_27_code
def yX7_chain : MethodName := ⟨RX7, "chain", "(II)I"⟩
abbrev cX7_read : ByteArray := prog_1_method_28_code
def yX7_read : MethodName := ⟨RX7, "read", "(II)I"⟩
abbrev cX7_shut : ByteArray := prog_1_method_29_code
def yX7_shut : MethodName := ⟨RX7, "shut", "(II)I"⟩
abbrev cX7_own : ByteArray := prog_1_method_30_code
def yX7_own : MethodName := ⟨RX7, "own", "()I"⟩
abbrev cX7_unlock : ByteArray := prog_1_method_31_code
def yX7_unlock : MethodName := ⟨RX7, "unlock", "()I"⟩
abbrev cX7_clear : ByteArray := prog_1_method_32_code
def yX7_clear : MethodName := ⟨RX7, "clear", "()I"⟩
abbrev cX7_tick : ByteArray := prog_1_method_33_code
def yX7_tick : MethodName := ⟨RX7, "tick", "(I)I"⟩
abbrev cX7_restart : ByteArray := prog_1_method_34_code
def yX7_restart : MethodName := ⟨RX7, "restart", "()I"⟩
abbrev cX7_look : ByteArray := prog_1_method_35_code
def yX7_look : MethodName := ⟨RX7, "look", "(I)I"⟩
abbrev cX7_takeTapeHash : ByteArray := prog_1_method_36_code
def yX7_takeTapeHash : MethodName := ⟨RX7, "takeTapeHash", "()V"⟩
abbrev cX7_hashNothing : ByteArray := prog_1_method_37_code
def yX7_hashNothing : MethodName := ⟨RX7, "hashNothing", "([B)V"⟩
abbrev cX7_tell : ByteArray := prog_1_method_38_code
def yX7_tell : MethodName := ⟨RX7, "tell", "([BI)I"⟩
abbrev cX7_openSession : ByteArray := prog_1_method_39_code
def yX7_openSession : MethodName := ⟨RX7, "openSession", "(I)LMeasuredVault$Session;"⟩
abbrev cX7_objectAt : ByteArray := prog_1_method_40_code
def yX7_objectAt : MethodName := ⟨RX7, "objectAt", "(I)LMeasuredVault$Thing;"⟩
abbrev cX7_valueAt : ByteArray := prog_1_method_41_code
def yX7_valueAt : MethodName := ⟨RX7, "valueAt", "(I)LMeasuredVault$Value;"⟩
abbrev cX7_valueOf : ByteArray := prog_1_method_42_code
def yX7_valueOf : MethodName := ⟨RX7, "valueOf", "(II)LMeasuredVault$Value;"⟩
abbrev cX7_policyFrom : ByteArray := prog_1_method_43_code
def yX7_policyFrom : MethodName := ⟨RX7, "policyFrom", "(I)[B"⟩
abbrev cX7_chooseBranch : ByteArray := prog_1_method_44_code
def yX7_chooseBranch : MethodName := ⟨RX7, "chooseBranch", "(LMeasuredVault$Session;)I"⟩
abbrev cX7_keepUnwrapped : ByteArray := prog_1_method_45_code
def yX7_keepUnwrapped : MethodName := ⟨RX7, "keepUnwrapped", "()I"⟩
abbrev cX7_writeTape : ByteArray := prog_1_method_46_code
def yX7_writeTape : MethodName := ⟨RX7, "writeTape", "(LMeasuredVault$Value;II)I"⟩
abbrev cX7_chainTape : ByteArray := prog_1_method_47_code
def yX7_chainTape : MethodName := ⟨RX7, "chainTape", "(LMeasuredVault$Value;I)I"⟩
abbrev cX7_askToChange : ByteArray := prog_1_method_48_code
def yX7_askToChange : MethodName := ⟨RX7, "askToChange", "(LMeasuredVault$Value;II)I"⟩
abbrev cX7_ask : ByteArray := prog_1_method_49_code
def yX7_ask : MethodName := ⟨RX7, "ask", "(LMeasuredVault$Thing;II)I"⟩
abbrev cX7_askKey : ByteArray := prog_1_method_50_code
def yX7_askKey : MethodName := ⟨RX7, "askKey", "([B)I"⟩
abbrev cX7_freeObjects : ByteArray := prog_1_method_51_code
def yX7_freeObjects : MethodName := ⟨RX7, "freeObjects", "()V"⟩
abbrev cX7_objectsHeld : ByteArray := prog_1_method_52_code
def yX7_objectsHeld : MethodName := ⟨RX7, "objectsHeld", "()I"⟩
abbrev cX7_sessionsOpen : ByteArray := prog_1_method_53_code
def yX7_sessionsOpen : MethodName := ⟨RX7, "sessionsOpen", "()I"⟩
abbrev cX7_valuesDefined : ByteArray := prog_1_method_54_code
def yX7_valuesDefined : MethodName := ⟨RX7, "valuesDefined", "()I"⟩
abbrev cX7_copyDigest : ByteArray := prog_1_method_55_code
def yX7_copyDigest : MethodName := ⟨RX7, "copyDigest", "([B[B)V"⟩
abbrev cX7_sameDigest : ByteArray := prog_1_method_56_code
def yX7_sameDigest : MethodName := ⟨RX7, "sameDigest", "([B[B)Z"⟩
abbrev cX7_sameBytes : ByteArray := prog_1_method_57_code
def yX7_sameBytes : MethodName := ⟨RX7, "sameBytes", "([B[BI)Z"⟩
def RX8 : String := "MeasuredVaultModel"
def TX8 : u_T := fun k => match k with
  | 0 => ("MeasuredVaultModel", "tape", "[B", true)
  | 1 => ("MeasuredVaultModel", "tapeLength", "I", false)
  | 2 => ("MeasuredVaultModel", "out", "[B", true)
  | 3 => ("MeasuredVaultModel", "outCount", "I", false)
  | 4 => ("MeasuredVaultModel", "row", "[B", true)
  | 5 => ("MeasuredVaultModel", "rowCount", "I", false)
  | 6 => ("MeasuredVaultModel", "h", "[J", true)
  | 7 => ("MeasuredVaultModel", "w", "[J", true)
  | 8 => ("MeasuredVaultModel", "one", "[B", true)
  | 9 => ("MeasuredVaultModel", "macKey", "[B", true)
  | 10 => ("MeasuredVaultModel", "macText", "[B", true)
  | 11 => ("MeasuredVaultModel", "macCount", "I", false)
  | 12 => ("MeasuredVaultModel", "seed", "[B", true)
  | 13 => ("MeasuredVaultModel", "keyNow", "[B", true)
  | 14 => ("MeasuredVaultModel", "owner", "[B", true)
  | 15 => ("MeasuredVaultModel", "register", "[B", true)
  | 16 => ("MeasuredVaultModel", "clock", "I", false)
  | 17 => ("MeasuredVaultModel", "restarts", "I", false)
  | 18 => ("MeasuredVaultModel", "failures", "I", false)
  | 19 => ("MeasuredVaultModel", "blobs", "I", false)
  | 20 => ("MeasuredVaultModel", "greatest", "J", false)
  | 21 => ("MeasuredVaultModel", "open", "[Z", true)
  | 22 => ("MeasuredVaultModel", "digest", "[B", true)
  | 23 => ("MeasuredVaultModel", "ofRegisters", "[Z", true)
  | 24 => ("MeasuredVaultModel", "changed", "[Z", true)
  | 25 => ("MeasuredVaultModel", "ofAuth", "[Z", true)
  | 26 => ("MeasuredVaultModel", "ofTime", "[Z", true)
  | 27 => ("MeasuredVaultModel", "code", "[I", true)
  | 28 => ("MeasuredVaultModel", "time", "[I", true)
  | 29 => ("MeasuredVaultModel", "there", "[Z", true)
  | 30 => ("MeasuredVaultModel", "auth", "[B", true)
  | 31 => ("MeasuredVaultModel", "policy", "[B", true)
  | 32 => ("MeasuredVaultModel", "data", "[B", true)
  | 33 => ("MeasuredVaultModel", "size", "[I", true)
  | 34 => ("MeasuredVaultModel", "kind", "[I", true)
  | 35 => ("MeasuredVaultModel", "written", "[Z", true)
  | 36 => ("MeasuredVaultModel", "isShut", "[Z", true)
  | _ => ("MeasuredVaultModel", "check", "[B", true)
def tyX8 : Nat → FieldType := fun k => match k with
  | 0 => .array .byte
  | 1 => .int
  | 2 => .array .byte
  | 3 => .int
  | 4 => .array .byte
  | 5 => .int
  | 6 => .array .long
  | 7 => .array .long
  | 8 => .array .byte
  | 9 => .array .byte
  | 10 => .array .byte
  | 11 => .int
  | 12 => .array .byte
  | 13 => .array .byte
  | 14 => .array .byte
  | 15 => .array .byte
  | 16 => .int
  | 17 => .int
  | 18 => .int
  | 19 => .int
  | 20 => .long
  | 21 => .array .boolean
  | 22 => .array .byte
  | 23 => .array .boolean
  | 24 => .array .boolean
  | 25 => .array .boolean
  | 26 => .array .boolean
  | 27 => .array .int
  | 28 => .array .int
  | 29 => .array .boolean
  | 30 => .array .byte
  | 31 => .array .byte
  | 32 => .array .byte
  | 33 => .array .int
  | 34 => .array .int
  | 35 => .array .boolean
  | 36 => .array .boolean
  | _ => .array .byte
theorem nmX8 : ∀ a, a < 38 → ∀ b, b < 38 → a ≠ b → (TX8 a).2.1 ≠ (TX8 b).2.1 := by decide +kernel
theorem tyX8_ok : ∀ k, k < 38 → parseFieldDescriptor (TX8 k).2.2.1 = some (tyX8 k) := by decide +kernel
abbrev cX8_init : ByteArray := prog_10_method_1_code
def yX8_init : MethodName := ⟨RX8, "<init>", "(I)V"⟩
abbrev cX8_add : ByteArray := prog_10_method_2_code
def yX8_add : MethodName := ⟨RX8, "add", "(I)V"⟩
abbrev cX8_word : ByteArray := prog_10_method_3_code
def yX8_word : MethodName := ⟨RX8, "word", "(I)V"⟩
abbrev cX8_add_ : ByteArray := prog_10_method_4_code
def yX8_add_ : MethodName := ⟨RX8, "add", "([BII)V"⟩
abbrev cX8_turn : ByteArray := prog_10_method_5_code
def yX8_turn : MethodName := ⟨RX8, "turn", "(JI)J"⟩
abbrev cX8_block : ByteArray := prog_10_method_6_code
def yX8_block : MethodName := ⟨RX8, "block", "(III)V"⟩
abbrev cX8_hashTo : ByteArray := prog_10_method_7_code
def yX8_hashTo : MethodName := ⟨RX8, "hashTo", "([BI)V"⟩
abbrev cX8_macTo : ByteArray := prog_10_method_8_code
def yX8_macTo : MethodName := ⟨RX8, "macTo", "([BI)V"⟩
abbrev cX8_macSeed : ByteArray := prog_10_method_9_code
def yX8_macSeed : MethodName := ⟨RX8, "macSeed", "(I)V"⟩
abbrev cX8_same : ByteArray := prog_10_method_10_code
def yX8_same : MethodName := ⟨RX8, "same", "([BI[BI)Z"⟩
abbrev cX8_tapeHash : ByteArray := prog_10_method_11_code
def yX8_tapeHash : MethodName := ⟨RX8, "tapeHash", "([BI)V"⟩
abbrev cX8_put : ByteArray := prog_10_method_12_code
def yX8_put : MethodName := ⟨RX8, "put", "(I)V"⟩
abbrev cX8_feed : ByteArray := prog_10_method_13_code
def yX8_feed : MethodName := ⟨RX8, "feed", "(IIIII)I"⟩
abbrev cX8_end : ByteArray := prog_10_method_14_code
def yX8_end : MethodName := ⟨RX8, "end", "(I)I"⟩
abbrev cX8_octet : ByteArray := prog_10_method_15_code
def yX8_octet : MethodName := ⟨RX8, "octet", "(I)I"⟩
abbrev cX8_back : ByteArray := prog_10_method_16_code
def yX8_back : MethodName := ⟨RX8, "back", "()I"⟩
abbrev cX8_told : ByteArray := prog_10_method_17_code
def yX8_told : MethodName := ⟨RX8, "told", "()I"⟩
abbrev cX8_hash : ByteArray := prog_10_method_18_code
def yX8_hash : MethodName := ⟨RX8, "hash", "()I"⟩
abbrev cX8_key : ByteArray := prog_10_method_19_code
def yX8_key : MethodName := ⟨RX8, "key", "()I"⟩
abbrev cX8_change : ByteArray := prog_10_method_20_code
def yX8_change : MethodName := ⟨RX8, "change", "()V"⟩
abbrev cX8_extend : ByteArray := prog_10_method_21_code
def yX8_extend : MethodName := ⟨RX8, "extend", "(I)I"⟩
abbrev cX8_reset : ByteArray := prog_10_method_22_code
def yX8_reset : MethodName := ⟨RX8, "reset", "(I)I"⟩
abbrev cX8_stateTo : ByteArray := prog_10_method_23_code
def yX8_stateTo : MethodName := ⟨RX8, "stateTo", "(I[BI)V"⟩
abbrev cX8_state : ByteArray := prog_10_method_24_code
def yX8_state : MethodName := ⟨RX8, "state", "(I)I"⟩
abbrev cX8_tell : ByteArray := prog_10_method_25_code
def yX8_tell : MethodName := ⟨RX8, "tell", "(I)V"⟩
abbrev cX8_tellWord : ByteArray := prog_10_method_26_code
def yX8_tellWord : MethodName := ⟨RX8, "tellWord", "(I)V"⟩
abbrev cX8_quote : ByteArray := prog_10_method_27_code
def yX8_quote : MethodName := ⟨RX8, "quote", "(I)I"⟩
abbrev cX8_isSession : ByteArray := prog_10_method_28_code
def yX8_isSession : MethodName := ⟨RX8, "isSession", "(I)Z"⟩
abbrev cX8_opened : ByteArray := prog_10_method_29_code
def yX8_opened : MethodName := ⟨RX8, "opened", "(I)Z"⟩
abbrev cX8_open : ByteArray := prog_10_method_30_code
def yX8_open : MethodName := ⟨RX8, "open", "(I)I"⟩
abbrev cX8_begin : ByteArray := prog_10_method_31_code
def yX8_begin : MethodName := ⟨RX8, "begin", "(II)V"⟩
abbrev cX8_policyState : ByteArray := prog_10_method_32_code
def yX8_policyState : MethodName := ⟨RX8, "policyState", "(II)I"⟩
abbrev cX8_policyAuth : ByteArray := prog_10_method_33_code
def yX8_policyAuth : MethodName := ⟨RX8, "policyAuth", "(I)I"⟩
abbrev cX8_policyCode : ByteArray := prog_10_method_34_code
def yX8_policyCode : MethodName := ⟨RX8, "policyCode", "(II)I"⟩
abbrev cX8_policyTime : ByteArray := prog_10_method_35_code
def yX8_policyTime : MethodName := ⟨RX8, "policyTime", "(II)I"⟩
abbrev cX8_policyOr : ByteArray := prog_10_method_36_code
def yX8_policyOr : MethodName := ⟨RX8, "policyOr", "(I)I"⟩
abbrev cX8_digest : ByteArray := prog_10_method_37_code
def yX8_digest : MethodName := ⟨RX8, "digest", "(I)I"⟩
abbrev cX8_compared : ByteArray := prog_10_method_38_code
def yX8_compared : MethodName := ⟨RX8, "compared", "([BI)I"⟩
abbrev cX8_by : ByteArray := prog_10_method_39_code
def yX8_by : MethodName := ⟨RX8, "by", "(III)I"⟩
abbrev cX8_owners : ByteArray := prog_10_method_40_code
def yX8_owners : MethodName := ⟨RX8, "owners", "()I"⟩
abbrev cX8_number : ByteArray := prog_10_method_41_code
def yX8_number : MethodName := ⟨RX8, "number", "(I)V"⟩
abbrev cX8_mix : ByteArray := prog_10_method_42_code
def yX8_mix : MethodName := ⟨RX8, "mix", "([BIII)V"⟩
abbrev cX8_sealTo : ByteArray := prog_10_method_43_code
def yX8_sealTo : MethodName := ⟨RX8, "sealTo", "([BII[BI)V"⟩
abbrev cX8_seal : ByteArray := prog_10_method_44_code
def yX8_seal : MethodName := ⟨RX8, "seal", "(I)I"⟩
abbrev cX8_load : ByteArray := prog_10_method_45_code
def yX8_load : MethodName := ⟨RX8, "load", "()I"⟩
abbrev cX8_isObject : ByteArray := prog_10_method_46_code
def yX8_isObject : MethodName := ⟨RX8, "isObject", "(I)Z"⟩
abbrev cX8_show : ByteArray := prog_10_method_47_code
def yX8_show : MethodName := ⟨RX8, "show", "(I)I"⟩
abbrev cX8_unseal : ByteArray := prog_10_method_48_code
def yX8_unseal : MethodName := ⟨RX8, "unseal", "(II)I"⟩
abbrev cX8_flush : ByteArray := prog_10_method_49_code
def yX8_flush : MethodName := ⟨RX8, "flush", "(I)I"⟩
abbrev cX8_thing : ByteArray := prog_10_method_50_code
def yX8_thing : MethodName := ⟨RX8, "thing", "(II)I"⟩
abbrev cX8_define : ByteArray := prog_10_method_51_code
def yX8_define : MethodName := ⟨RX8, "define", "(IIII)I"⟩
abbrev cX8_undefine : ByteArray := prog_10_method_52_code
def yX8_undefine : MethodName := ⟨RX8, "undefine", "(I)I"⟩
abbrev cX8_write : ByteArray := prog_10_method_53_code
def yX8_write : MethodName := ⟨RX8, "write", "(III)I"⟩
abbrev cX8_count : ByteArray := prog_10_method_54_code
def yX8_count : MethodName := ⟨RX8, "count", "(II)I"⟩
abbrev cX8_chain : ByteArray := prog_10_method_55_code
def yX8_chain : MethodName := ⟨RX8, "chain", "(II)I"⟩
abbrev cX8_read : ByteArray := prog_10_method_56_code
def yX8_read : MethodName := ⟨RX8, "read", "(II)I"⟩
abbrev cX8_shut : ByteArray := prog_10_method_57_code
def yX8_shut : MethodName := ⟨RX8, "shut", "(II)I"⟩
abbrev cX8_own : ByteArray := prog_10_method_58_code
def yX8_own : MethodName := ⟨RX8, "own", "()I"⟩
abbrev cX8_unlock : ByteArray := prog_10_method_59_code
def yX8_unlock : MethodName := ⟨RX8, "unlock", "()I"⟩
abbrev cX8_clear : ByteArray := prog_10_method_60_code
def yX8_clear : MethodName := ⟨RX8, "clear", "()I"⟩
abbrev cX8_tick : ByteArray := prog_10_method_61_code
def yX8_tick : MethodName := ⟨RX8, "tick", "(I)I"⟩
abbrev cX8_restart : ByteArray := prog_10_method_62_code
def yX8_restart : MethodName := ⟨RX8, "restart", "()I"⟩
abbrev cX8_many : ByteArray := prog_10_method_63_code
def yX8_many : MethodName := ⟨RX8, "many", "([ZII)I"⟩
abbrev cX8_look : ByteArray := prog_10_method_64_code
def yX8_look : MethodName := ⟨RX8, "look", "(I)I"⟩
def RJ9 : String := "java/lang/Math"
def TJ9 : u_T := fun k => match k with
  | _ => ("", "", "", false)
def tyJ9 : Nat → FieldType := fun k => match k with
  | _ => .int
theorem nmJ9 : ∀ a, a < 0 → ∀ b, b < 0 → a ≠ b → (TJ9 a).2.1 ≠ (TJ9 b).2.1 := by decide +kernel
theorem tyJ9_ok : ∀ k, k < 0 → parseFieldDescriptor (TJ9 k).2.2.1 = some (tyJ9 k) := by decide +kernel
abbrev cJ9_floorMod_7cf53 : ByteArray := prog_11_method_50_code
def yJ9_floorMod_7cf53 : MethodName := ⟨RJ9, "floorMod", "(II)I"⟩
abbrev cJ9_max_7cf53 : ByteArray := prog_11_method_65_code
def yJ9_max_7cf53 : MethodName := ⟨RJ9, "max", "(II)I"⟩
abbrev cJ9_max_f86c9 : ByteArray := prog_11_method_66_code
def yJ9_max_f86c9 : MethodName := ⟨RJ9, "max", "(JJ)J"⟩
abbrev cJ9_min_7cf53 : ByteArray := prog_11_method_69_code
def yJ9_min_7cf53 : MethodName := ⟨RJ9, "min", "(II)I"⟩
def RJ10 : String := "java/lang/System"
def TJ10 : u_T := fun k => match k with
  | _ => ("", "", "", false)
def tyJ10 : Nat → FieldType := fun k => match k with
  | _ => .int
theorem nmJ10 : ∀ a, a < 0 → ∀ b, b < 0 → a ≠ b → (TJ10 a).2.1 ≠ (TJ10 b).2.1 := by decide +kernel
theorem tyJ10_ok : ∀ k, k < 0 → parseFieldDescriptor (TJ10 k).2.2.1 = some (tyJ10 k) := by decide +kernel
def RJ7 : String := "java/util/Arrays"
def TJ7 : u_T := fun k => match k with
  | _ => ("", "", "", false)
def tyJ7 : Nat → FieldType := fun k => match k with
  | _ => .int
theorem nmJ7 : ∀ a, a < 0 → ∀ b, b < 0 → a ≠ b → (TJ7 a).2.1 ≠ (TJ7 b).2.1 := by decide +kernel
theorem tyJ7_ok : ∀ k, k < 0 → parseFieldDescriptor (TJ7 k).2.2.1 = some (tyJ7 k) := by decide +kernel
abbrev cJ7_fill_031fb : ByteArray := prog_13_method_109_code
def yJ7_fill_031fb : MethodName := ⟨RJ7, "fill", "([BB)V"⟩
def RL : String := "MeasuredVaultLaw"
abbrev cL_cell : ByteArray := method_2_code
def yL_cell : MethodName := ⟨RL, "cell", "([II)I"⟩
abbrev cL_law : ByteArray := code
def yL_law : MethodName := ⟨RL, "law", "([I)Z"⟩
abbrev vwCl : List vw_C := [(RX0, TX0, 2), (RX1, TX1, 4), (RX2, TX2, 3), (RX3, TX3, 5), (RX4, TX4, 8), (RX5, TX5, 4), (RX6, TX6, 5), (RX7, TX7, 16), (RX8, TX8, 38)]
end
section
theorem dX0_init_0 : decode cX0_init 0 = .ok (.aload_n 0, 1) := by decide +kernel
theorem dX0_init_1 : decode cX0_init 1 = .ok (.invokespecial 1, 3) := by decide +kernel
theorem dX0_init_4 : decode cX0_init 4 = .ok (.aload_n 0, 1) := by decide +kernel
theorem dX0_init_5 : decode cX0_init 5 = .ok (.iload_n 1, 1) := by decide +kernel
theorem dX0_init_6 : decode cX0_init 6 = .ok (.newarray .byte, 2) := by decide +kernel
theorem dX0_init_8 : decode cX0_init 8 = .ok (.putfield 7, 3) := by decide +kernel
theorem dX0_init_11 : decode cX0_init 11 = .ok (.return_, 1) := by decide +kernel
theorem dX0_hasRoomFor_0 : decode cX0_hasRoomFor 0 = .ok (.iload_n 1, 1) := by decide +kernel
theorem dX0_hasRoomFor_1 : decode cX0_hasRoomFor 1 = .ok (.aload_n 0, 1) := by decide +kernel
theorem dX0_hasRoomFor_2 : decode cX0_hasRoomFor 2 = .ok (.getfield 7, 3) := by decide +kernel
theorem dX0_hasRoomFor_5 : decode cX0_hasRoomFor 5 = .ok (.arraylength, 1) := by decide +kernel
theorem dX0_hasRoomFor_6 : decode cX0_hasRoomFor 6 = .ok (.aload_n 0, 1) := by decide +kernel
theorem dX0_hasRoomFor_7 : decode cX0_hasRoomFor 7 = .ok (.getfield 13, 3) := by decide +kernel
theorem dX0_hasRoomFor_10 : decode cX0_hasRoomFor 10 = .ok (.isub, 1) := by decide +kernel
theorem dX0_hasRoomFor_11 : decode cX0_hasRoomFor 11 = .ok (.if_icmp .gt 7, 3) := by decide +kernel
theorem dX0_hasRoomFor_14 : decode cX0_hasRoomFor 14 = .ok (.iconst 1, 1) := by decide +kernel
theorem dX0_hasRoomFor_15 : decode cX0_hasRoomFor 15 = .ok (.goto 4, 3) := by decide +kernel
theorem dX0_hasRoomFor_18 : decode cX0_hasRoomFor 18 = .ok (.iconst 0, 1) := by decide +kernel
theorem dX0_hasRoomFor_19 : decode cX0_hasRoomFor 19 = .ok (.ireturn, 1) := by decide +kernel
theorem dX0_put_0 : decode cX0_put 0 = .ok (.aload_n 0, 1) := by decide +kernel
theorem dX0_put_1 : decode cX0_put 1 = .ok (.getfield 13, 3) := by decide +kernel
theorem dX0_put_4 : decode cX0_put 4 = .ok (.aload_n 0, 1) := by decide +kernel
theorem dX0_put_5 : decode cX0_put 5 = .ok (.getfield 7, 3) := by decide +kernel
theorem dX0_put_8 : decode cX0_put 8 = .ok (.arraylength, 1) := by decide +kernel
theorem dX0_put_9 : decode cX0_put 9 = .ok (.if_icmp .ge 24, 3) := by decide +kernel
theorem dX0_put_12 : decode cX0_put 12 = .ok (.aload_n 0, 1) := by decide +kernel
theorem dX0_put_13 : decode cX0_put 13 = .ok (.getfield 7, 3) := by decide +kernel
theorem dX0_put_16 : decode cX0_put 16 = .ok (.aload_n 0, 1) := by decide +kernel
theorem dX0_put_17 : decode cX0_put 17 = .ok (.getfield 13, 3) := by decide +kernel
theorem dX0_put_20 : decode cX0_put 20 = .ok (.iload_n 1, 1) := by decide +kernel
theorem dX0_put_21 : decode cX0_put 21 = .ok (.i2b, 1) := by decide +kernel
theorem dX0_put_22 : decode cX0_put 22 = .ok (.bastore, 1) := by decide +kernel
theorem dX0_put_23 : decode cX0_put 23 = .ok (.aload_n 0, 1) := by decide +kernel
theorem dX0_put_24 : decode cX0_put 24 = .ok (.dup, 1) := by decide +kernel
theorem dX0_put_25 : decode cX0_put 25 = .ok (.getfield 13, 3) := by decide +kernel
theorem dX0_put_28 : decode cX0_put 28 = .ok (.iconst 1, 1) := by decide +kernel
theorem dX0_put_29 : decode cX0_put 29 = .ok (.iadd, 1) := by decide +kernel
theorem dX0_put_30 : decode cX0_put 30 = .ok (.putfield 13, 3) := by decide +kernel
theorem dX0_put_33 : decode cX0_put 33 = .ok (.return_, 1) := by decide +kernel
theorem dX0_putInt_0 : decode cX0_putInt 0 = .ok (.aload_n 0, 1) := by decide +kernel
theorem dX0_putInt_1 : decode cX0_putInt 1 = .ok (.iload_n 1, 1) := by decide +kernel
theorem dX0_putInt_2 : decode cX0_putInt 2 = .ok (.bipush 24, 2) := by decide +kernel
theorem dX0_putInt_4 : decode cX0_putInt 4 = .ok (.iushr, 1) := by decide +kernel
theorem dX0_putInt_5 : decode cX0_putInt 5 = .ok (.invokevirtual 17, 3) := by decide +kernel
theorem dX0_putInt_8 : decode cX0_putInt 8 = .ok (.aload_n 0, 1) := by decide +kernel
theorem dX0_putInt_9 : decode cX0_putInt 9 = .ok (.iload_n 1, 1) := by decide +kernel
theorem dX0_putInt_10 : decode cX0_putInt 10 = .ok (.bipush 16, 2) := by decide +kernel
theorem dX0_putInt_12 : decode cX0_putInt 12 = .ok (.iushr, 1) := by decide +kernel
theorem dX0_putInt_13 : decode cX0_putInt 13 = .ok (.invokevirtual 17, 3) := by decide +kernel
theorem dX0_putInt_16 : decode cX0_putInt 16 = .ok (.aload_n 0, 1) := by decide +kernel
theorem dX0_putInt_17 : decode cX0_putInt 17 = .ok (.iload_n 1, 1) := by decide +kernel
theorem dX0_putInt_18 : decode cX0_putInt 18 = .ok (.bipush 8, 2) := by decide +kernel
theorem dX0_putInt_20 : decode cX0_putInt 20 = .ok (.iushr, 1) := by decide +kernel
theorem dX0_putInt_21 : decode cX0_putInt 21 = .ok (.invokevirtual 17, 3) := by decide +kernel
theorem dX0_putInt_24 : decode cX0_putInt 24 = .ok (.aload_n 0, 1) := by decide +kernel
theorem dX0_putInt_25 : decode cX0_putInt 25 = .ok (.iload_n 1, 1) := by decide +kernel
theorem dX0_putInt_26 : decode cX0_putInt 26 = .ok (.invokevirtual 17, 3) := by decide +kernel
theorem dX0_putInt_29 : decode cX0_putInt 29 = .ok (.return_, 1) := by decide +kernel
theorem dX0_intAt_0 : decode cX0_intAt 0 = .ok (.iload_n 1, 1) := by decide +kernel
theorem dX0_intAt_1 : decode cX0_intAt 1 = .ok (.ifCond .lt 14, 3) := by decide +kernel
theorem dX0_intAt_4 : decode cX0_intAt 4 = .ok (.iload_n 1, 1) := by decide +kernel
theorem dX0_intAt_5 : decode cX0_intAt 5 = .ok (.aload_n 0, 1) := by decide +kernel
theorem dX0_intAt_6 : decode cX0_intAt 6 = .ok (.getfield 7, 3) := by decide +kernel
theorem dX0_intAt_9 : decode cX0_intAt 9 = .ok (.arraylength, 1) := by decide +kernel
theorem dX0_intAt_10 : decode cX0_intAt 10 = .ok (.iconst 4, 1) := by decide +kernel
theorem dX0_intAt_11 : decode cX0_intAt 11 = .ok (.isub, 1) := by decide +kernel
theorem dX0_intAt_12 : decode cX0_intAt 12 = .ok (.if_icmp .le 5, 3) := by decide +kernel
theorem dX0_intAt_15 : decode cX0_intAt 15 = .ok (.iconst 0, 1) := by decide +kernel
theorem dX0_intAt_16 : decode cX0_intAt 16 = .ok (.ireturn, 1) := by decide +kernel
theorem dX0_intAt_17 : decode cX0_intAt 17 = .ok (.aload_n 0, 1) := by decide +kernel
theorem dX0_intAt_18 : decode cX0_intAt 18 = .ok (.getfield 7, 3) := by decide +kernel
theorem dX0_intAt_21 : decode cX0_intAt 21 = .ok (.iload_n 1, 1) := by decide +kernel
theorem dX0_intAt_22 : decode cX0_intAt 22 = .ok (.baload, 1) := by decide +kernel
theorem dX0_intAt_23 : decode cX0_intAt 23 = .ok (.bipush 24, 2) := by decide +kernel
theorem dX0_intAt_25 : decode cX0_intAt 25 = .ok (.ishl, 1) := by decide +kernel
theorem dX0_intAt_26 : decode cX0_intAt 26 = .ok (.aload_n 0, 1) := by decide +kernel
theorem dX0_intAt_27 : decode cX0_intAt 27 = .ok (.getfield 7, 3) := by decide +kernel
theorem dX0_intAt_30 : decode cX0_intAt 30 = .ok (.iload_n 1, 1) := by decide +kernel
theorem dX0_intAt_31 : decode cX0_intAt 31 = .ok (.iconst 1, 1) := by decide +kernel
theorem dX0_intAt_32 : decode cX0_intAt 32 = .ok (.iadd, 1) := by decide +kernel
theorem dX0_intAt_33 : decode cX0_intAt 33 = .ok (.baload, 1) := by decide +kernel
theorem dX0_intAt_34 : decode cX0_intAt 34 = .ok (.sipush 255, 3) := by decide +kernel
theorem dX0_intAt_37 : decode cX0_intAt 37 = .ok (.iand, 1) := by decide +kernel
theorem dX0_intAt_38 : decode cX0_intAt 38 = .ok (.bipush 16, 2) := by decide +kernel
theorem dX0_intAt_40 : decode cX0_intAt 40 = .ok (.ishl, 1) := by decide +kernel
theorem dX0_intAt_41 : decode cX0_intAt 41 = .ok (.ior, 1) := by decide +kernel
theorem dX0_intAt_42 : decode cX0_intAt 42 = .ok (.aload_n 0, 1) := by decide +kernel
theorem dX0_intAt_43 : decode cX0_intAt 43 = .ok (.getfield 7, 3) := by decide +kernel
theorem dX0_intAt_46 : decode cX0_intAt 46 = .ok (.iload_n 1, 1) := by decide +kernel
theorem dX0_intAt_47 : decode cX0_intAt 47 = .ok (.iconst 2, 1) := by decide +kernel
theorem dX0_intAt_48 : decode cX0_intAt 48 = .ok (.iadd, 1) := by decide +kernel
theorem dX0_intAt_49 : decode cX0_intAt 49 = .ok (.baload, 1) := by decide +kernel
theorem dX0_intAt_50 : decode cX0_intAt 50 = .ok (.sipush 255, 3) := by decide +kernel
theorem dX0_intAt_53 : decode cX0_intAt 53 = .ok (.iand, 1) := by decide +kernel
theorem dX0_intAt_54 : decode cX0_intAt 54 = .ok (.bipush 8, 2) := by decide +kernel
theorem dX0_intAt_56 : decode cX0_intAt 56 = .ok (.ishl, 1) := by decide +kernel
theorem dX0_intAt_57 : decode cX0_intAt 57 = .ok (.ior, 1) := by decide +kernel
theorem dX0_intAt_58 : decode cX0_intAt 58 = .ok (.aload_n 0, 1) := by decide +kernel
theorem dX0_intAt_59 : decode cX0_intAt 59 = .ok (.getfield 7, 3) := by decide +kernel
theorem dX0_intAt_62 : decode cX0_intAt 62 = .ok (.iload_n 1, 1) := by decide +kernel
theorem dX0_intAt_63 : decode cX0_intAt 63 = .ok (.iconst 3, 1) := by decide +kernel
theorem dX0_intAt_64 : decode cX0_intAt 64 = .ok (.iadd, 1) := by decide +kernel
theorem dX0_intAt_65 : decode cX0_intAt 65 = .ok (.baload, 1) := by decide +kernel
theorem dX0_intAt_66 : decode cX0_intAt 66 = .ok (.sipush 255, 3) := by decide +kernel
theorem dX0_intAt_69 : decode cX0_intAt 69 = .ok (.iand, 1) := by decide +kernel
theorem dX0_intAt_70 : decode cX0_intAt 70 = .ok (.ior, 1) := by decide +kernel
theorem dX0_intAt_71 : decode cX0_intAt 71 = .ok (.ireturn, 1) := by decide +kernel
theorem dX0_putAll_0 : decode cX0_putAll 0 = .ok (.iload_n 2, 1) := by decide +kernel
theorem dX0_putAll_1 : decode cX0_putAll 1 = .ok (.aload_n 0, 1) := by decide +kernel
theorem dX0_putAll_2 : decode cX0_putAll 2 = .ok (.getfield 7, 3) := by decide +kernel
theorem dX0_putAll_5 : decode cX0_putAll 5 = .ok (.arraylength, 1) := by decide +kernel
theorem dX0_putAll_6 : decode cX0_putAll 6 = .ok (.aload_n 0, 1) := by decide +kernel
theorem dX0_putAll_7 : decode cX0_putAll 7 = .ok (.getfield 13, 3) := by decide +kernel
theorem dX0_putAll_10 : decode cX0_putAll 10 = .ok (.isub, 1) := by decide +kernel
theorem dX0_putAll_11 : decode cX0_putAll 11 = .ok (.invokestatic 21, 3) := by decide +kernel
theorem dX0_putAll_14 : decode cX0_putAll 14 = .ok (.istore_n 3, 1) := by decide +kernel
theorem dX0_putAll_15 : decode cX0_putAll 15 = .ok (.aload_n 1, 1) := by decide +kernel
theorem dX0_putAll_16 : decode cX0_putAll 16 = .ok (.iconst 0, 1) := by decide +kernel
theorem dX0_putAll_17 : decode cX0_putAll 17 = .ok (.aload_n 0, 1) := by decide +kernel
theorem dX0_putAll_18 : decode cX0_putAll 18 = .ok (.getfield 7, 3) := by decide +kernel
theorem dX0_putAll_21 : decode cX0_putAll 21 = .ok (.aload_n 0, 1) := by decide +kernel
theorem dX0_putAll_22 : decode cX0_putAll 22 = .ok (.getfield 13, 3) := by decide +kernel
theorem dX0_putAll_25 : decode cX0_putAll 25 = .ok (.iload_n 3, 1) := by decide +kernel
theorem dX0_putAll_26 : decode cX0_putAll 26 = .ok (.invokestatic 27, 3) := by decide +kernel
theorem dX0_putAll_29 : decode cX0_putAll 29 = .ok (.aload_n 0, 1) := by decide +kernel
theorem dX0_putAll_30 : decode cX0_putAll 30 = .ok (.dup, 1) := by decide +kernel
theorem dX0_putAll_31 : decode cX0_putAll 31 = .ok (.getfield 13, 3) := by decide +kernel
theorem dX0_putAll_34 : decode cX0_putAll 34 = .ok (.iload_n 3, 1) := by decide +kernel
theorem dX0_putAll_35 : decode cX0_putAll 35 = .ok (.iadd, 1) := by decide +kernel
theorem dX0_putAll_36 : decode cX0_putAll 36 = .ok (.putfield 13, 3) := by decide +kernel
theorem dX0_putAll_39 : decode cX0_putAll 39 = .ok (.return_, 1) := by decide +kernel
theorem dX1_init_0 : decode cX1_init 0 = .ok (.aload_n 0, 1) := by decide +kernel
theorem dX1_init_1 : decode cX1_init 1 = .ok (.invokespecial 3, 3) := by decide +kernel
theorem dX1_init_4 : decode cX1_init 4 = .ok (.aload_n 0, 1) := by decide +kernel
theorem dX1_init_5 : decode cX1_init 5 = .ok (.new 9, 3) := by decide +kernel
theorem dX1_init_8 : decode cX1_init 8 = .ok (.dup, 1) := by decide +kernel
theorem dX1_init_9 : decode cX1_init 9 = .ok (.sipush 512, 3) := by decide +kernel
theorem dX1_init_12 : decode cX1_init 12 = .ok (.invokespecial 13, 3) := by decide +kernel
theorem dX1_init_15 : decode cX1_init 15 = .ok (.putfield 16, 3) := by decide +kernel
theorem dX1_init_18 : decode cX1_init 18 = .ok (.aload_n 0, 1) := by decide +kernel
theorem dX1_init_19 : decode cX1_init 19 = .ok (.bipush 8, 2) := by decide +kernel
theorem dX1_init_21 : decode cX1_init 21 = .ok (.newarray .int, 2) := by decide +kernel
theorem dX1_init_23 : decode cX1_init 23 = .ok (.putfield 20, 3) := by decide +kernel
theorem dX1_init_26 : decode cX1_init 26 = .ok (.aload_n 0, 1) := by decide +kernel
theorem dX1_init_27 : decode cX1_init 27 = .ok (.bipush 64, 2) := by decide +kernel
theorem dX1_init_29 : decode cX1_init 29 = .ok (.newarray .int, 2) := by decide +kernel
theorem dX1_init_31 : decode cX1_init 31 = .ok (.putfield 24, 3) := by decide +kernel
theorem dX1_init_34 : decode cX1_init 34 = .ok (.aload_n 0, 1) := by decide +kernel
theorem dX1_init_35 : decode cX1_init 35 = .ok (.bipush 32, 2) := by decide +kernel
theorem dX1_init_37 : decode cX1_init 37 = .ok (.newarray .byte, 2) := by decide +kernel
theorem dX1_init_39 : decode cX1_init 39 = .ok (.putfield 27, 3) := by decide +kernel
theorem dX1_init_42 : decode cX1_init 42 = .ok (.return_, 1) := by decide +kernel
theorem dX1_begin_0 : decode cX1_begin 0 = .ok (.aload_n 0, 1) := by decide +kernel
theorem dX1_begin_1 : decode cX1_begin 1 = .ok (.getfield 16, 3) := by decide +kernel
theorem dX1_begin_4 : decode cX1_begin 4 = .ok (.iconst 0, 1) := by decide +kernel
theorem dX1_begin_5 : decode cX1_begin 5 = .ok (.putfield 31, 3) := by decide +kernel
theorem dX1_begin_8 : decode cX1_begin 8 = .ok (.aload_n 0, 1) := by decide +kernel
theorem dX1_begin_9 : decode cX1_begin 9 = .ok (.getfield 16, 3) := by decide +kernel
theorem dX1_begin_12 : decode cX1_begin 12 = .ok (.areturn, 1) := by decide +kernel
theorem dX1_beginKeyed_0 : decode cX1_beginKeyed 0 = .ok (.aload_n 0, 1) := by decide +kernel
theorem dX1_beginKeyed_1 : decode cX1_beginKeyed 1 = .ok (.getfield 16, 3) := by decide +kernel
theorem dX1_beginKeyed_4 : decode cX1_beginKeyed 4 = .ok (.iconst 0, 1) := by decide +kernel
theorem dX1_beginKeyed_5 : decode cX1_beginKeyed 5 = .ok (.putfield 31, 3) := by decide +kernel
theorem dX1_beginKeyed_8 : decode cX1_beginKeyed 8 = .ok (.aload_n 0, 1) := by decide +kernel
theorem dX1_beginKeyed_9 : decode cX1_beginKeyed 9 = .ok (.aload_n 1, 1) := by decide +kernel
theorem dX1_beginKeyed_10 : decode cX1_beginKeyed 10 = .ok (.bipush 54, 2) := by decide +kernel
theorem dX1_beginKeyed_12 : decode cX1_beginKeyed 12 = .ok (.invokevirtual 35, 3) := by decide +kernel
theorem dX1_beginKeyed_15 : decode cX1_beginKeyed 15 = .ok (.aload_n 0, 1) := by decide +kernel
theorem dX1_beginKeyed_16 : decode cX1_beginKeyed 16 = .ok (.getfield 16, 3) := by decide +kernel
theorem dX1_beginKeyed_19 : decode cX1_beginKeyed 19 = .ok (.areturn, 1) := by decide +kernel
theorem dX1_finishKeyed_0 : decode cX1_finishKeyed 0 = .ok (.aload_n 0, 1) := by decide +kernel
theorem dX1_finishKeyed_1 : decode cX1_finishKeyed 1 = .ok (.aload_n 0, 1) := by decide +kernel
theorem dX1_finishKeyed_2 : decode cX1_finishKeyed 2 = .ok (.getfield 27, 3) := by decide +kernel
theorem dX1_finishKeyed_5 : decode cX1_finishKeyed 5 = .ok (.invokevirtual 39, 3) := by decide +kernel
theorem dX1_finishKeyed_8 : decode cX1_finishKeyed 8 = .ok (.aload_n 0, 1) := by decide +kernel
theorem dX1_finishKeyed_9 : decode cX1_finishKeyed 9 = .ok (.getfield 16, 3) := by decide +kernel
theorem dX1_finishKeyed_12 : decode cX1_finishKeyed 12 = .ok (.iconst 0, 1) := by decide +kernel
theorem dX1_finishKeyed_13 : decode cX1_finishKeyed 13 = .ok (.putfield 31, 3) := by decide +kernel
theorem dX1_finishKeyed_16 : decode cX1_finishKeyed 16 = .ok (.aload_n 0, 1) := by decide +kernel
theorem dX1_finishKeyed_17 : decode cX1_finishKeyed 17 = .ok (.aload_n 1, 1) := by decide +kernel
theorem dX1_finishKeyed_18 : decode cX1_finishKeyed 18 = .ok (.bipush 92, 2) := by decide +kernel
theorem dX1_finishKeyed_20 : decode cX1_finishKeyed 20 = .ok (.invokevirtual 35, 3) := by decide +kernel
theorem dX1_finishKeyed_23 : decode cX1_finishKeyed 23 = .ok (.aload_n 0, 1) := by decide +kernel
theorem dX1_finishKeyed_24 : decode cX1_finishKeyed 24 = .ok (.getfield 16, 3) := by decide +kernel
theorem dX1_finishKeyed_27 : decode cX1_finishKeyed 27 = .ok (.aload_n 0, 1) := by decide +kernel
theorem dX1_finishKeyed_28 : decode cX1_finishKeyed 28 = .ok (.getfield 27, 3) := by decide +kernel
theorem dX1_finishKeyed_31 : decode cX1_finishKeyed 31 = .ok (.bipush 32, 2) := by decide +kernel
theorem dX1_finishKeyed_33 : decode cX1_finishKeyed 33 = .ok (.invokevirtual 43, 3) := by decide +kernel
theorem dX1_finishKeyed_36 : decode cX1_finishKeyed 36 = .ok (.aload_n 0, 1) := by decide +kernel
theorem dX1_finishKeyed_37 : decode cX1_finishKeyed 37 = .ok (.aload_n 2, 1) := by decide +kernel
theorem dX1_finishKeyed_38 : decode cX1_finishKeyed 38 = .ok (.invokevirtual 39, 3) := by decide +kernel
theorem dX1_finishKeyed_41 : decode cX1_finishKeyed 41 = .ok (.return_, 1) := by decide +kernel
theorem dX1_finish_0 : decode cX1_finish 0 = .ok (.aload_n 0, 1) := by decide +kernel
theorem dX1_finish_1 : decode cX1_finish 1 = .ok (.invokevirtual 46, 3) := by decide +kernel
theorem dX1_finish_4 : decode cX1_finish 4 = .ok (.getstatic 49, 3) := by decide +kernel
theorem dX1_finish_7 : decode cX1_finish 7 = .ok (.iconst 0, 1) := by decide +kernel
theorem dX1_finish_8 : decode cX1_finish 8 = .ok (.aload_n 0, 1) := by decide +kernel
theorem dX1_finish_9 : decode cX1_finish 9 = .ok (.getfield 20, 3) := by decide +kernel
theorem dX1_finish_12 : decode cX1_finish 12 = .ok (.iconst 0, 1) := by decide +kernel
theorem dX1_finish_13 : decode cX1_finish 13 = .ok (.aload_n 0, 1) := by decide +kernel
theorem dX1_finish_14 : decode cX1_finish 14 = .ok (.getfield 20, 3) := by decide +kernel
theorem dX1_finish_17 : decode cX1_finish 17 = .ok (.arraylength, 1) := by decide +kernel
theorem dX1_finish_18 : decode cX1_finish 18 = .ok (.invokestatic 52, 3) := by decide +kernel
theorem dX1_finish_21 : decode cX1_finish 21 = .ok (.iconst 0, 1) := by decide +kernel
theorem dX1_finish_22 : decode cX1_finish 22 = .ok (.istore_n 2, 1) := by decide +kernel
theorem dX1_finish_23 : decode cX1_finish 23 = .ok (.iload_n 2, 1) := by decide +kernel
theorem dX1_finish_24 : decode cX1_finish 24 = .ok (.aload_n 0, 1) := by decide +kernel
theorem dX1_finish_25 : decode cX1_finish 25 = .ok (.getfield 16, 3) := by decide +kernel
theorem dX1_finish_28 : decode cX1_finish 28 = .ok (.getfield 31, 3) := by decide +kernel
theorem dX1_finish_31 : decode cX1_finish 31 = .ok (.if_icmp .ge 18, 3) := by decide +kernel
theorem dX1_finish_34 : decode cX1_finish 34 = .ok (.aload_n 0, 1) := by decide +kernel
theorem dX1_finish_35 : decode cX1_finish 35 = .ok (.iload_n 2, 1) := by decide +kernel
theorem dX1_finish_36 : decode cX1_finish 36 = .ok (.invokevirtual 58, 3) := by decide +kernel
theorem dX1_finish_39 : decode cX1_finish 39 = .ok (.aload_n 0, 1) := by decide +kernel
theorem dX1_finish_40 : decode cX1_finish 40 = .ok (.invokevirtual 61, 3) := by decide +kernel
theorem dX1_finish_43 : decode cX1_finish 43 = .ok (.iinc 2 64, 3) := by decide +kernel
theorem dX1_finish_46 : decode cX1_finish 46 = .ok (.goto (-23), 3) := by decide +kernel
theorem dX1_finish_49 : decode cX1_finish 49 = .ok (.iconst 0, 1) := by decide +kernel
theorem dX1_finish_50 : decode cX1_finish 50 = .ok (.istore_n 2, 1) := by decide +kernel
theorem dX1_finish_51 : decode cX1_finish 51 = .ok (.iload_n 2, 1) := by decide +kernel
theorem dX1_finish_52 : decode cX1_finish 52 = .ok (.aload_n 0, 1) := by decide +kernel
theorem dX1_finish_53 : decode cX1_finish 53 = .ok (.getfield 20, 3) := by decide +kernel
theorem dX1_finish_56 : decode cX1_finish 56 = .ok (.arraylength, 1) := by decide +kernel
theorem dX1_finish_57 : decode cX1_finish 57 = .ok (.if_icmp .ge 72, 3) := by decide +kernel
theorem dX1_finish_60 : decode cX1_finish 60 = .ok (.aload_n 1, 1) := by decide +kernel
theorem dX1_finish_61 : decode cX1_finish 61 = .ok (.iconst 4, 1) := by decide +kernel
theorem dX1_finish_62 : decode cX1_finish 62 = .ok (.iload_n 2, 1) := by decide +kernel
theorem dX1_finish_63 : decode cX1_finish 63 = .ok (.imul, 1) := by decide +kernel
theorem dX1_finish_64 : decode cX1_finish 64 = .ok (.aload_n 0, 1) := by decide +kernel
theorem dX1_finish_65 : decode cX1_finish 65 = .ok (.getfield 20, 3) := by decide +kernel
theorem dX1_finish_68 : decode cX1_finish 68 = .ok (.iload_n 2, 1) := by decide +kernel
theorem dX1_finish_69 : decode cX1_finish 69 = .ok (.iaload, 1) := by decide +kernel
theorem dX1_finish_70 : decode cX1_finish 70 = .ok (.bipush 24, 2) := by decide +kernel
theorem dX1_finish_72 : decode cX1_finish 72 = .ok (.iushr, 1) := by decide +kernel
theorem dX1_finish_73 : decode cX1_finish 73 = .ok (.i2b, 1) := by decide +kernel
theorem dX1_finish_74 : decode cX1_finish 74 = .ok (.bastore, 1) := by decide +kernel
theorem dX1_finish_75 : decode cX1_finish 75 = .ok (.aload_n 1, 1) := by decide +kernel
theorem dX1_finish_76 : decode cX1_finish 76 = .ok (.iconst 4, 1) := by decide +kernel
theorem dX1_finish_77 : decode cX1_finish 77 = .ok (.iload_n 2, 1) := by decide +kernel
theorem dX1_finish_78 : decode cX1_finish 78 = .ok (.imul, 1) := by decide +kernel
theorem dX1_finish_79 : decode cX1_finish 79 = .ok (.iconst 1, 1) := by decide +kernel
theorem dX1_finish_80 : decode cX1_finish 80 = .ok (.iadd, 1) := by decide +kernel
theorem dX1_finish_81 : decode cX1_finish 81 = .ok (.aload_n 0, 1) := by decide +kernel
theorem dX1_finish_82 : decode cX1_finish 82 = .ok (.getfield 20, 3) := by decide +kernel
theorem dX1_finish_85 : decode cX1_finish 85 = .ok (.iload_n 2, 1) := by decide +kernel
theorem dX1_finish_86 : decode cX1_finish 86 = .ok (.iaload, 1) := by decide +kernel
theorem dX1_finish_87 : decode cX1_finish 87 = .ok (.bipush 16, 2) := by decide +kernel
theorem dX1_finish_89 : decode cX1_finish 89 = .ok (.iushr, 1) := by decide +kernel
theorem dX1_finish_90 : decode cX1_finish 90 = .ok (.i2b, 1) := by decide +kernel
theorem dX1_finish_91 : decode cX1_finish 91 = .ok (.bastore, 1) := by decide +kernel
theorem dX1_finish_92 : decode cX1_finish 92 = .ok (.aload_n 1, 1) := by decide +kernel
theorem dX1_finish_93 : decode cX1_finish 93 = .ok (.iconst 4, 1) := by decide +kernel
theorem dX1_finish_94 : decode cX1_finish 94 = .ok (.iload_n 2, 1) := by decide +kernel
theorem dX1_finish_95 : decode cX1_finish 95 = .ok (.imul, 1) := by decide +kernel
theorem dX1_finish_96 : decode cX1_finish 96 = .ok (.iconst 2, 1) := by decide +kernel
theorem dX1_finish_97 : decode cX1_finish 97 = .ok (.iadd, 1) := by decide +kernel
theorem dX1_finish_98 : decode cX1_finish 98 = .ok (.aload_n 0, 1) := by decide +kernel
theorem dX1_finish_99 : decode cX1_finish 99 = .ok (.getfield 20, 3) := by decide +kernel
theorem dX1_finish_102 : decode cX1_finish 102 = .ok (.iload_n 2, 1) := by decide +kernel
theorem dX1_finish_103 : decode cX1_finish 103 = .ok (.iaload, 1) := by decide +kernel
theorem dX1_finish_104 : decode cX1_finish 104 = .ok (.bipush 8, 2) := by decide +kernel
theorem dX1_finish_106 : decode cX1_finish 106 = .ok (.iushr, 1) := by decide +kernel
theorem dX1_finish_107 : decode cX1_finish 107 = .ok (.i2b, 1) := by decide +kernel
theorem dX1_finish_108 : decode cX1_finish 108 = .ok (.bastore, 1) := by decide +kernel
theorem dX1_finish_109 : decode cX1_finish 109 = .ok (.aload_n 1, 1) := by decide +kernel
theorem dX1_finish_110 : decode cX1_finish 110 = .ok (.iconst 4, 1) := by decide +kernel
theorem dX1_finish_111 : decode cX1_finish 111 = .ok (.iload_n 2, 1) := by decide +kernel
theorem dX1_finish_112 : decode cX1_finish 112 = .ok (.imul, 1) := by decide +kernel
theorem dX1_finish_113 : decode cX1_finish 113 = .ok (.iconst 3, 1) := by decide +kernel
theorem dX1_finish_114 : decode cX1_finish 114 = .ok (.iadd, 1) := by decide +kernel
theorem dX1_finish_115 : decode cX1_finish 115 = .ok (.aload_n 0, 1) := by decide +kernel
theorem dX1_finish_116 : decode cX1_finish 116 = .ok (.getfield 20, 3) := by decide +kernel
theorem dX1_finish_119 : decode cX1_finish 119 = .ok (.iload_n 2, 1) := by decide +kernel
theorem dX1_finish_120 : decode cX1_finish 120 = .ok (.iaload, 1) := by decide +kernel
theorem dX1_finish_121 : decode cX1_finish 121 = .ok (.i2b, 1) := by decide +kernel
theorem dX1_finish_122 : decode cX1_finish 122 = .ok (.bastore, 1) := by decide +kernel
theorem dX1_finish_123 : decode cX1_finish 123 = .ok (.iinc 2 1, 3) := by decide +kernel
theorem dX1_finish_126 : decode cX1_finish 126 = .ok (.goto (-75), 3) := by decide +kernel
theorem dX1_finish_129 : decode cX1_finish 129 = .ok (.return_, 1) := by decide +kernel
theorem dX1_putPad_0 : decode cX1_putPad 0 = .ok (.iconst 0, 1) := by decide +kernel
theorem dX1_putPad_1 : decode cX1_putPad 1 = .ok (.istore_n 3, 1) := by decide +kernel
theorem dX1_putPad_2 : decode cX1_putPad 2 = .ok (.iload_n 3, 1) := by decide +kernel
theorem dX1_putPad_3 : decode cX1_putPad 3 = .ok (.bipush 64, 2) := by decide +kernel
theorem dX1_putPad_5 : decode cX1_putPad 5 = .ok (.if_icmp .ge 31, 3) := by decide +kernel
theorem dX1_putPad_8 : decode cX1_putPad 8 = .ok (.aload_n 0, 1) := by decide +kernel
theorem dX1_putPad_9 : decode cX1_putPad 9 = .ok (.getfield 16, 3) := by decide +kernel
theorem dX1_putPad_12 : decode cX1_putPad 12 = .ok (.iload_n 3, 1) := by decide +kernel
theorem dX1_putPad_13 : decode cX1_putPad 13 = .ok (.bipush 32, 2) := by decide +kernel
theorem dX1_putPad_15 : decode cX1_putPad 15 = .ok (.if_icmp .ge 9, 3) := by decide +kernel
theorem dX1_putPad_18 : decode cX1_putPad 18 = .ok (.aload_n 1, 1) := by decide +kernel
theorem dX1_putPad_19 : decode cX1_putPad 19 = .ok (.iload_n 3, 1) := by decide +kernel
theorem dX1_putPad_20 : decode cX1_putPad 20 = .ok (.baload, 1) := by decide +kernel
theorem dX1_putPad_21 : decode cX1_putPad 21 = .ok (.goto 4, 3) := by decide +kernel
theorem dX1_putPad_24 : decode cX1_putPad 24 = .ok (.iconst 0, 1) := by decide +kernel
theorem dX1_putPad_25 : decode cX1_putPad 25 = .ok (.iload_n 2, 1) := by decide +kernel
theorem dX1_putPad_26 : decode cX1_putPad 26 = .ok (.ixor, 1) := by decide +kernel
theorem dX1_putPad_27 : decode cX1_putPad 27 = .ok (.invokevirtual 64, 3) := by decide +kernel
theorem dX1_putPad_30 : decode cX1_putPad 30 = .ok (.iinc 3 1, 3) := by decide +kernel
theorem dX1_putPad_33 : decode cX1_putPad 33 = .ok (.goto (-31), 3) := by decide +kernel
theorem dX1_putPad_36 : decode cX1_putPad 36 = .ok (.return_, 1) := by decide +kernel
theorem dX1_padMessage_0 : decode cX1_padMessage 0 = .ok (.aload_n 0, 1) := by decide +kernel
theorem dX1_padMessage_1 : decode cX1_padMessage 1 = .ok (.getfield 16, 3) := by decide +kernel
theorem dX1_padMessage_4 : decode cX1_padMessage 4 = .ok (.getfield 31, 3) := by decide +kernel
theorem dX1_padMessage_7 : decode cX1_padMessage 7 = .ok (.bipush 8, 2) := by decide +kernel
theorem dX1_padMessage_9 : decode cX1_padMessage 9 = .ok (.imul, 1) := by decide +kernel
theorem dX1_padMessage_10 : decode cX1_padMessage 10 = .ok (.istore_n 1, 1) := by decide +kernel
theorem dX1_padMessage_11 : decode cX1_padMessage 11 = .ok (.aload_n 0, 1) := by decide +kernel
theorem dX1_padMessage_12 : decode cX1_padMessage 12 = .ok (.getfield 16, 3) := by decide +kernel
theorem dX1_padMessage_15 : decode cX1_padMessage 15 = .ok (.sipush 128, 3) := by decide +kernel
theorem dX1_padMessage_18 : decode cX1_padMessage 18 = .ok (.invokevirtual 64, 3) := by decide +kernel
theorem dX1_padMessage_21 : decode cX1_padMessage 21 = .ok (.bipush 56, 2) := by decide +kernel
theorem dX1_padMessage_23 : decode cX1_padMessage 23 = .ok (.aload_n 0, 1) := by decide +kernel
theorem dX1_padMessage_24 : decode cX1_padMessage 24 = .ok (.getfield 16, 3) := by decide +kernel
theorem dX1_padMessage_27 : decode cX1_padMessage 27 = .ok (.getfield 31, 3) := by decide +kernel
theorem dX1_padMessage_30 : decode cX1_padMessage 30 = .ok (.isub, 1) := by decide +kernel
theorem dX1_padMessage_31 : decode cX1_padMessage 31 = .ok (.bipush 64, 2) := by decide +kernel
theorem dX1_padMessage_33 : decode cX1_padMessage 33 = .ok (.invokestatic 67, 3) := by decide +kernel
theorem dX1_padMessage_36 : decode cX1_padMessage 36 = .ok (.bipush 6, 2) := by decide +kernel
theorem dX1_padMessage_38 : decode cX1_padMessage 38 = .ok (.iadd, 1) := by decide +kernel
theorem dX1_padMessage_39 : decode cX1_padMessage 39 = .ok (.istore_n 2, 1) := by decide +kernel
theorem dX1_padMessage_40 : decode cX1_padMessage 40 = .ok (.iconst 0, 1) := by decide +kernel
theorem dX1_padMessage_41 : decode cX1_padMessage 41 = .ok (.istore_n 3, 1) := by decide +kernel
theorem dX1_padMessage_42 : decode cX1_padMessage 42 = .ok (.iload_n 3, 1) := by decide +kernel
theorem dX1_padMessage_43 : decode cX1_padMessage 43 = .ok (.iload_n 2, 1) := by decide +kernel
theorem dX1_padMessage_44 : decode cX1_padMessage 44 = .ok (.if_icmp .ge 17, 3) := by decide +kernel
theorem dX1_padMessage_47 : decode cX1_padMessage 47 = .ok (.aload_n 0, 1) := by decide +kernel
theorem dX1_padMessage_48 : decode cX1_padMessage 48 = .ok (.getfield 16, 3) := by decide +kernel
theorem dX1_padMessage_51 : decode cX1_padMessage 51 = .ok (.iconst 0, 1) := by decide +kernel
theorem dX1_padMessage_52 : decode cX1_padMessage 52 = .ok (.invokevirtual 64, 3) := by decide +kernel
theorem dX1_padMessage_55 : decode cX1_padMessage 55 = .ok (.iinc 3 1, 3) := by decide +kernel
theorem dX1_padMessage_58 : decode cX1_padMessage 58 = .ok (.goto (-16), 3) := by decide +kernel
theorem dX1_padMessage_61 : decode cX1_padMessage 61 = .ok (.aload_n 0, 1) := by decide +kernel
theorem dX1_padMessage_62 : decode cX1_padMessage 62 = .ok (.getfield 16, 3) := by decide +kernel
theorem dX1_padMessage_65 : decode cX1_padMessage 65 = .ok (.iload_n 1, 1) := by decide +kernel
theorem dX1_padMessage_66 : decode cX1_padMessage 66 = .ok (.bipush 8, 2) := by decide +kernel
theorem dX1_padMessage_68 : decode cX1_padMessage 68 = .ok (.iushr, 1) := by decide +kernel
theorem dX1_padMessage_69 : decode cX1_padMessage 69 = .ok (.invokevirtual 64, 3) := by decide +kernel
theorem dX1_padMessage_72 : decode cX1_padMessage 72 = .ok (.aload_n 0, 1) := by decide +kernel
theorem dX1_padMessage_73 : decode cX1_padMessage 73 = .ok (.getfield 16, 3) := by decide +kernel
theorem dX1_padMessage_76 : decode cX1_padMessage 76 = .ok (.iload_n 1, 1) := by decide +kernel
theorem dX1_padMessage_77 : decode cX1_padMessage 77 = .ok (.invokevirtual 64, 3) := by decide +kernel
theorem dX1_padMessage_80 : decode cX1_padMessage 80 = .ok (.return_, 1) := by decide +kernel
theorem dX1_spreadBlock_0 : decode cX1_spreadBlock 0 = .ok (.iconst 0, 1) := by decide +kernel
theorem dX1_spreadBlock_1 : decode cX1_spreadBlock 1 = .ok (.istore_n 2, 1) := by decide +kernel
theorem dX1_spreadBlock_2 : decode cX1_spreadBlock 2 = .ok (.iload_n 2, 1) := by decide +kernel
theorem dX1_spreadBlock_3 : decode cX1_spreadBlock 3 = .ok (.bipush 16, 2) := by decide +kernel
theorem dX1_spreadBlock_5 : decode cX1_spreadBlock 5 = .ok (.if_icmp .ge 27, 3) := by decide +kernel
theorem dX1_spreadBlock_8 : decode cX1_spreadBlock 8 = .ok (.aload_n 0, 1) := by decide +kernel
theorem dX1_spreadBlock_9 : decode cX1_spreadBlock 9 = .ok (.getfield 24, 3) := by decide +kernel
theorem dX1_spreadBlock_12 : decode cX1_spreadBlock 12 = .ok (.iload_n 2, 1) := by decide +kernel
theorem dX1_spreadBlock_13 : decode cX1_spreadBlock 13 = .ok (.aload_n 0, 1) := by decide +kernel
theorem dX1_spreadBlock_14 : decode cX1_spreadBlock 14 = .ok (.getfield 16, 3) := by decide +kernel
theorem dX1_spreadBlock_17 : decode cX1_spreadBlock 17 = .ok (.iload_n 1, 1) := by decide +kernel
theorem dX1_spreadBlock_18 : decode cX1_spreadBlock 18 = .ok (.iconst 4, 1) := by decide +kernel
theorem dX1_spreadBlock_19 : decode cX1_spreadBlock 19 = .ok (.iload_n 2, 1) := by decide +kernel
theorem dX1_spreadBlock_20 : decode cX1_spreadBlock 20 = .ok (.imul, 1) := by decide +kernel
theorem dX1_spreadBlock_21 : decode cX1_spreadBlock 21 = .ok (.iadd, 1) := by decide +kernel
theorem dX1_spreadBlock_22 : decode cX1_spreadBlock 22 = .ok (.invokevirtual 73, 3) := by decide +kernel
theorem dX1_spreadBlock_25 : decode cX1_spreadBlock 25 = .ok (.iastore, 1) := by decide +kernel
theorem dX1_spreadBlock_26 : decode cX1_spreadBlock 26 = .ok (.iinc 2 1, 3) := by decide +kernel
theorem dX1_spreadBlock_29 : decode cX1_spreadBlock 29 = .ok (.goto (-27), 3) := by decide +kernel
theorem dX1_spreadBlock_32 : decode cX1_spreadBlock 32 = .ok (.bipush 16, 2) := by decide +kernel
theorem dX1_spreadBlock_34 : decode cX1_spreadBlock 34 = .ok (.istore_n 2, 1) := by decide +kernel
theorem dX1_spreadBlock_35 : decode cX1_spreadBlock 35 = .ok (.iload_n 2, 1) := by decide +kernel
theorem dX1_spreadBlock_36 : decode cX1_spreadBlock 36 = .ok (.bipush 64, 2) := by decide +kernel
theorem dX1_spreadBlock_38 : decode cX1_spreadBlock 38 = .ok (.if_icmp .ge 116, 3) := by decide +kernel
theorem dX1_spreadBlock_41 : decode cX1_spreadBlock 41 = .ok (.aload_n 0, 1) := by decide +kernel
theorem dX1_spreadBlock_42 : decode cX1_spreadBlock 42 = .ok (.getfield 24, 3) := by decide +kernel
theorem dX1_spreadBlock_45 : decode cX1_spreadBlock 45 = .ok (.iload_n 2, 1) := by decide +kernel
theorem dX1_spreadBlock_46 : decode cX1_spreadBlock 46 = .ok (.bipush 15, 2) := by decide +kernel
theorem dX1_spreadBlock_48 : decode cX1_spreadBlock 48 = .ok (.isub, 1) := by decide +kernel
theorem dX1_spreadBlock_49 : decode cX1_spreadBlock 49 = .ok (.iaload, 1) := by decide +kernel
theorem dX1_spreadBlock_50 : decode cX1_spreadBlock 50 = .ok (.istore_n 3, 1) := by decide +kernel
theorem dX1_spreadBlock_51 : decode cX1_spreadBlock 51 = .ok (.aload_n 0, 1) := by decide +kernel
theorem dX1_spreadBlock_52 : decode cX1_spreadBlock 52 = .ok (.getfield 24, 3) := by decide +kernel
theorem dX1_spreadBlock_55 : decode cX1_spreadBlock 55 = .ok (.iload_n 2, 1) := by decide +kernel
theorem dX1_spreadBlock_56 : decode cX1_spreadBlock 56 = .ok (.iconst 2, 1) := by decide +kernel
theorem dX1_spreadBlock_57 : decode cX1_spreadBlock 57 = .ok (.isub, 1) := by decide +kernel
theorem dX1_spreadBlock_58 : decode cX1_spreadBlock 58 = .ok (.iaload, 1) := by decide +kernel
theorem dX1_spreadBlock_59 : decode cX1_spreadBlock 59 = .ok (.istore 4, 2) := by decide +kernel
theorem dX1_spreadBlock_61 : decode cX1_spreadBlock 61 = .ok (.iload_n 3, 1) := by decide +kernel
theorem dX1_spreadBlock_62 : decode cX1_spreadBlock 62 = .ok (.bipush 7, 2) := by decide +kernel
theorem dX1_spreadBlock_64 : decode cX1_spreadBlock 64 = .ok (.iushr, 1) := by decide +kernel
theorem dX1_spreadBlock_65 : decode cX1_spreadBlock 65 = .ok (.iload_n 3, 1) := by decide +kernel
theorem dX1_spreadBlock_66 : decode cX1_spreadBlock 66 = .ok (.bipush 25, 2) := by decide +kernel
theorem dX1_spreadBlock_68 : decode cX1_spreadBlock 68 = .ok (.ishl, 1) := by decide +kernel
theorem dX1_spreadBlock_69 : decode cX1_spreadBlock 69 = .ok (.ior, 1) := by decide +kernel
theorem dX1_spreadBlock_70 : decode cX1_spreadBlock 70 = .ok (.iload_n 3, 1) := by decide +kernel
theorem dX1_spreadBlock_71 : decode cX1_spreadBlock 71 = .ok (.bipush 18, 2) := by decide +kernel
theorem dX1_spreadBlock_73 : decode cX1_spreadBlock 73 = .ok (.iushr, 1) := by decide +kernel
theorem dX1_spreadBlock_74 : decode cX1_spreadBlock 74 = .ok (.iload_n 3, 1) := by decide +kernel
theorem dX1_spreadBlock_75 : decode cX1_spreadBlock 75 = .ok (.bipush 14, 2) := by decide +kernel
theorem dX1_spreadBlock_77 : decode cX1_spreadBlock 77 = .ok (.ishl, 1) := by decide +kernel
theorem dX1_spreadBlock_78 : decode cX1_spreadBlock 78 = .ok (.ior, 1) := by decide +kernel
theorem dX1_spreadBlock_79 : decode cX1_spreadBlock 79 = .ok (.ixor, 1) := by decide +kernel
theorem dX1_spreadBlock_80 : decode cX1_spreadBlock 80 = .ok (.iload_n 3, 1) := by decide +kernel
theorem dX1_spreadBlock_81 : decode cX1_spreadBlock 81 = .ok (.iconst 3, 1) := by decide +kernel
theorem dX1_spreadBlock_82 : decode cX1_spreadBlock 82 = .ok (.iushr, 1) := by decide +kernel
theorem dX1_spreadBlock_83 : decode cX1_spreadBlock 83 = .ok (.ixor, 1) := by decide +kernel
theorem dX1_spreadBlock_84 : decode cX1_spreadBlock 84 = .ok (.istore 5, 2) := by decide +kernel
theorem dX1_spreadBlock_86 : decode cX1_spreadBlock 86 = .ok (.iload 4, 2) := by decide +kernel
theorem dX1_spreadBlock_88 : decode cX1_spreadBlock 88 = .ok (.bipush 17, 2) := by decide +kernel
theorem dX1_spreadBlock_90 : decode cX1_spreadBlock 90 = .ok (.iushr, 1) := by decide +kernel
theorem dX1_spreadBlock_91 : decode cX1_spreadBlock 91 = .ok (.iload 4, 2) := by decide +kernel
theorem dX1_spreadBlock_93 : decode cX1_spreadBlock 93 = .ok (.bipush 15, 2) := by decide +kernel
theorem dX1_spreadBlock_95 : decode cX1_spreadBlock 95 = .ok (.ishl, 1) := by decide +kernel
theorem dX1_spreadBlock_96 : decode cX1_spreadBlock 96 = .ok (.ior, 1) := by decide +kernel
theorem dX1_spreadBlock_97 : decode cX1_spreadBlock 97 = .ok (.iload 4, 2) := by decide +kernel
theorem dX1_spreadBlock_99 : decode cX1_spreadBlock 99 = .ok (.bipush 19, 2) := by decide +kernel
theorem dX1_spreadBlock_101 : decode cX1_spreadBlock 101 = .ok (.iushr, 1) := by decide +kernel
theorem dX1_spreadBlock_102 : decode cX1_spreadBlock 102 = .ok (.iload 4, 2) := by decide +kernel
theorem dX1_spreadBlock_104 : decode cX1_spreadBlock 104 = .ok (.bipush 13, 2) := by decide +kernel
theorem dX1_spreadBlock_106 : decode cX1_spreadBlock 106 = .ok (.ishl, 1) := by decide +kernel
theorem dX1_spreadBlock_107 : decode cX1_spreadBlock 107 = .ok (.ior, 1) := by decide +kernel
theorem dX1_spreadBlock_108 : decode cX1_spreadBlock 108 = .ok (.ixor, 1) := by decide +kernel
theorem dX1_spreadBlock_109 : decode cX1_spreadBlock 109 = .ok (.iload 4, 2) := by decide +kernel
theorem dX1_spreadBlock_111 : decode cX1_spreadBlock 111 = .ok (.bipush 10, 2) := by decide +kernel
theorem dX1_spreadBlock_113 : decode cX1_spreadBlock 113 = .ok (.iushr, 1) := by decide +kernel
theorem dX1_spreadBlock_114 : decode cX1_spreadBlock 114 = .ok (.ixor, 1) := by decide +kernel
theorem dX1_spreadBlock_115 : decode cX1_spreadBlock 115 = .ok (.istore 6, 2) := by decide +kernel
theorem dX1_spreadBlock_117 : decode cX1_spreadBlock 117 = .ok (.aload_n 0, 1) := by decide +kernel
theorem dX1_spreadBlock_118 : decode cX1_spreadBlock 118 = .ok (.getfield 24, 3) := by decide +kernel
theorem dX1_spreadBlock_121 : decode cX1_spreadBlock 121 = .ok (.iload_n 2, 1) := by decide +kernel
theorem dX1_spreadBlock_122 : decode cX1_spreadBlock 122 = .ok (.aload_n 0, 1) := by decide +kernel
theorem dX1_spreadBlock_123 : decode cX1_spreadBlock 123 = .ok (.getfield 24, 3) := by decide +kernel
theorem dX1_spreadBlock_126 : decode cX1_spreadBlock 126 = .ok (.iload_n 2, 1) := by decide +kernel
theorem dX1_spreadBlock_127 : decode cX1_spreadBlock 127 = .ok (.bipush 16, 2) := by decide +kernel
theorem dX1_spreadBlock_129 : decode cX1_spreadBlock 129 = .ok (.isub, 1) := by decide +kernel
theorem dX1_spreadBlock_130 : decode cX1_spreadBlock 130 = .ok (.iaload, 1) := by decide +kernel
theorem dX1_spreadBlock_131 : decode cX1_spreadBlock 131 = .ok (.iload 5, 2) := by decide +kernel
theorem dX1_spreadBlock_133 : decode cX1_spreadBlock 133 = .ok (.iadd, 1) := by decide +kernel
theorem dX1_spreadBlock_134 : decode cX1_spreadBlock 134 = .ok (.aload_n 0, 1) := by decide +kernel
theorem dX1_spreadBlock_135 : decode cX1_spreadBlock 135 = .ok (.getfield 24, 3) := by decide +kernel
theorem dX1_spreadBlock_138 : decode cX1_spreadBlock 138 = .ok (.iload_n 2, 1) := by decide +kernel
theorem dX1_spreadBlock_139 : decode cX1_spreadBlock 139 = .ok (.bipush 7, 2) := by decide +kernel
theorem dX1_spreadBlock_141 : decode cX1_spreadBlock 141 = .ok (.isub, 1) := by decide +kernel
theorem dX1_spreadBlock_142 : decode cX1_spreadBlock 142 = .ok (.iaload, 1) := by decide +kernel
theorem dX1_spreadBlock_143 : decode cX1_spreadBlock 143 = .ok (.iadd, 1) := by decide +kernel
theorem dX1_spreadBlock_144 : decode cX1_spreadBlock 144 = .ok (.iload 6, 2) := by decide +kernel
theorem dX1_spreadBlock_146 : decode cX1_spreadBlock 146 = .ok (.iadd, 1) := by decide +kernel
theorem dX1_spreadBlock_147 : decode cX1_spreadBlock 147 = .ok (.iastore, 1) := by decide +kernel
theorem dX1_spreadBlock_148 : decode cX1_spreadBlock 148 = .ok (.iinc 2 1, 3) := by decide +kernel
theorem dX1_spreadBlock_151 : decode cX1_spreadBlock 151 = .ok (.goto (-116), 3) := by decide +kernel
theorem dX1_spreadBlock_154 : decode cX1_spreadBlock 154 = .ok (.return_, 1) := by decide +kernel
theorem dX1_mixBlock_0 : decode cX1_mixBlock 0 = .ok (.aload_n 0, 1) := by decide +kernel
theorem dX1_mixBlock_1 : decode cX1_mixBlock 1 = .ok (.getfield 20, 3) := by decide +kernel
theorem dX1_mixBlock_4 : decode cX1_mixBlock 4 = .ok (.iconst 0, 1) := by decide +kernel
theorem dX1_mixBlock_5 : decode cX1_mixBlock 5 = .ok (.iaload, 1) := by decide +kernel
theorem dX1_mixBlock_6 : decode cX1_mixBlock 6 = .ok (.istore_n 1, 1) := by decide +kernel
theorem dX1_mixBlock_7 : decode cX1_mixBlock 7 = .ok (.aload_n 0, 1) := by decide +kernel
theorem dX1_mixBlock_8 : decode cX1_mixBlock 8 = .ok (.getfield 20, 3) := by decide +kernel
theorem dX1_mixBlock_11 : decode cX1_mixBlock 11 = .ok (.iconst 1, 1) := by decide +kernel
theorem dX1_mixBlock_12 : decode cX1_mixBlock 12 = .ok (.iaload, 1) := by decide +kernel
theorem dX1_mixBlock_13 : decode cX1_mixBlock 13 = .ok (.istore_n 2, 1) := by decide +kernel
theorem dX1_mixBlock_14 : decode cX1_mixBlock 14 = .ok (.aload_n 0, 1) := by decide +kernel
theorem dX1_mixBlock_15 : decode cX1_mixBlock 15 = .ok (.getfield 20, 3) := by decide +kernel
theorem dX1_mixBlock_18 : decode cX1_mixBlock 18 = .ok (.iconst 2, 1) := by decide +kernel
theorem dX1_mixBlock_19 : decode cX1_mixBlock 19 = .ok (.iaload, 1) := by decide +kernel
theorem dX1_mixBlock_20 : decode cX1_mixBlock 20 = .ok (.istore_n 3, 1) := by decide +kernel
theorem dX1_mixBlock_21 : decode cX1_mixBlock 21 = .ok (.aload_n 0, 1) := by decide +kernel
theorem dX1_mixBlock_22 : decode cX1_mixBlock 22 = .ok (.getfield 20, 3) := by decide +kernel
theorem dX1_mixBlock_25 : decode cX1_mixBlock 25 = .ok (.iconst 3, 1) := by decide +kernel
theorem dX1_mixBlock_26 : decode cX1_mixBlock 26 = .ok (.iaload, 1) := by decide +kernel
theorem dX1_mixBlock_27 : decode cX1_mixBlock 27 = .ok (.istore 4, 2) := by decide +kernel
theorem dX1_mixBlock_29 : decode cX1_mixBlock 29 = .ok (.aload_n 0, 1) := by decide +kernel
theorem dX1_mixBlock_30 : decode cX1_mixBlock 30 = .ok (.getfield 20, 3) := by decide +kernel
theorem dX1_mixBlock_33 : decode cX1_mixBlock 33 = .ok (.iconst 4, 1) := by decide +kernel
theorem dX1_mixBlock_34 : decode cX1_mixBlock 34 = .ok (.iaload, 1) := by decide +kernel
theorem dX1_mixBlock_35 : decode cX1_mixBlock 35 = .ok (.istore 5, 2) := by decide +kernel
theorem dX1_mixBlock_37 : decode cX1_mixBlock 37 = .ok (.aload_n 0, 1) := by decide +kernel
theorem dX1_mixBlock_38 : decode cX1_mixBlock 38 = .ok (.getfield 20, 3) := by decide +kernel
theorem dX1_mixBlock_41 : decode cX1_mixBlock 41 = .ok (.iconst 5, 1) := by decide +kernel
theorem dX1_mixBlock_42 : decode cX1_mixBlock 42 = .ok (.iaload, 1) := by decide +kernel
theorem dX1_mixBlock_43 : decode cX1_mixBlock 43 = .ok (.istore 6, 2) := by decide +kernel
theorem dX1_mixBlock_45 : decode cX1_mixBlock 45 = .ok (.aload_n 0, 1) := by decide +kernel
theorem dX1_mixBlock_46 : decode cX1_mixBlock 46 = .ok (.getfield 20, 3) := by decide +kernel
theorem dX1_mixBlock_49 : decode cX1_mixBlock 49 = .ok (.bipush 6, 2) := by decide +kernel
theorem dX1_mixBlock_51 : decode cX1_mixBlock 51 = .ok (.iaload, 1) := by decide +kernel
theorem dX1_mixBlock_52 : decode cX1_mixBlock 52 = .ok (.istore 7, 2) := by decide +kernel
theorem dX1_mixBlock_54 : decode cX1_mixBlock 54 = .ok (.aload_n 0, 1) := by decide +kernel
theorem dX1_mixBlock_55 : decode cX1_mixBlock 55 = .ok (.getfield 20, 3) := by decide +kernel
theorem dX1_mixBlock_58 : decode cX1_mixBlock 58 = .ok (.bipush 7, 2) := by decide +kernel
theorem dX1_mixBlock_60 : decode cX1_mixBlock 60 = .ok (.iaload, 1) := by decide +kernel
theorem dX1_mixBlock_61 : decode cX1_mixBlock 61 = .ok (.istore 8, 2) := by decide +kernel
theorem dX1_mixBlock_63 : decode cX1_mixBlock 63 = .ok (.iconst 0, 1) := by decide +kernel
theorem dX1_mixBlock_64 : decode cX1_mixBlock 64 = .ok (.istore 9, 2) := by decide +kernel
theorem dX1_mixBlock_66 : decode cX1_mixBlock 66 = .ok (.iload 9, 2) := by decide +kernel
theorem dX1_mixBlock_68 : decode cX1_mixBlock 68 = .ok (.bipush 64, 2) := by decide +kernel
theorem dX1_mixBlock_70 : decode cX1_mixBlock 70 = .ok (.if_icmp .ge 160, 3) := by decide +kernel
theorem dX1_mixBlock_73 : decode cX1_mixBlock 73 = .ok (.iload 5, 2) := by decide +kernel
theorem dX1_mixBlock_75 : decode cX1_mixBlock 75 = .ok (.bipush 6, 2) := by decide +kernel
theorem dX1_mixBlock_77 : decode cX1_mixBlock 77 = .ok (.iushr, 1) := by decide +kernel
theorem dX1_mixBlock_78 : decode cX1_mixBlock 78 = .ok (.iload 5, 2) := by decide +kernel
theorem dX1_mixBlock_80 : decode cX1_mixBlock 80 = .ok (.bipush 26, 2) := by decide +kernel
theorem dX1_mixBlock_82 : decode cX1_mixBlock 82 = .ok (.ishl, 1) := by decide +kernel
theorem dX1_mixBlock_83 : decode cX1_mixBlock 83 = .ok (.ior, 1) := by decide +kernel
theorem dX1_mixBlock_84 : decode cX1_mixBlock 84 = .ok (.iload 5, 2) := by decide +kernel
theorem dX1_mixBlock_86 : decode cX1_mixBlock 86 = .ok (.bipush 11, 2) := by decide +kernel
theorem dX1_mixBlock_88 : decode cX1_mixBlock 88 = .ok (.iushr, 1) := by decide +kernel
theorem dX1_mixBlock_89 : decode cX1_mixBlock 89 = .ok (.iload 5, 2) := by decide +kernel
theorem dX1_mixBlock_91 : decode cX1_mixBlock 91 = .ok (.bipush 21, 2) := by decide +kernel
theorem dX1_mixBlock_93 : decode cX1_mixBlock 93 = .ok (.ishl, 1) := by decide +kernel
theorem dX1_mixBlock_94 : decode cX1_mixBlock 94 = .ok (.ior, 1) := by decide +kernel
theorem dX1_mixBlock_95 : decode cX1_mixBlock 95 = .ok (.ixor, 1) := by decide +kernel
theorem dX1_mixBlock_96 : decode cX1_mixBlock 96 = .ok (.iload 5, 2) := by decide +kernel
theorem dX1_mixBlock_98 : decode cX1_mixBlock 98 = .ok (.bipush 25, 2) := by decide +kernel
theorem dX1_mixBlock_100 : decode cX1_mixBlock 100 = .ok (.iushr, 1) := by decide +kernel
theorem dX1_mixBlock_101 : decode cX1_mixBlock 101 = .ok (.iload 5, 2) := by decide +kernel
theorem dX1_mixBlock_103 : decode cX1_mixBlock 103 = .ok (.bipush 7, 2) := by decide +kernel
theorem dX1_mixBlock_105 : decode cX1_mixBlock 105 = .ok (.ishl, 1) := by decide +kernel
theorem dX1_mixBlock_106 : decode cX1_mixBlock 106 = .ok (.ior, 1) := by decide +kernel
theorem dX1_mixBlock_107 : decode cX1_mixBlock 107 = .ok (.ixor, 1) := by decide +kernel
theorem dX1_mixBlock_108 : decode cX1_mixBlock 108 = .ok (.istore 10, 2) := by decide +kernel
theorem dX1_mixBlock_110 : decode cX1_mixBlock 110 = .ok (.iload 8, 2) := by decide +kernel
theorem dX1_mixBlock_112 : decode cX1_mixBlock 112 = .ok (.iload 10, 2) := by decide +kernel
theorem dX1_mixBlock_114 : decode cX1_mixBlock 114 = .ok (.iadd, 1) := by decide +kernel
theorem dX1_mixBlock_115 : decode cX1_mixBlock 115 = .ok (.iload 5, 2) := by decide +kernel
theorem dX1_mixBlock_117 : decode cX1_mixBlock 117 = .ok (.iload 6, 2) := by decide +kernel
theorem dX1_mixBlock_119 : decode cX1_mixBlock 119 = .ok (.iand, 1) := by decide +kernel
theorem dX1_mixBlock_120 : decode cX1_mixBlock 120 = .ok (.iload 5, 2) := by decide +kernel
theorem dX1_mixBlock_122 : decode cX1_mixBlock 122 = .ok (.iconst (-1), 1) := by decide +kernel
theorem dX1_mixBlock_123 : decode cX1_mixBlock 123 = .ok (.ixor, 1) := by decide +kernel
theorem dX1_mixBlock_124 : decode cX1_mixBlock 124 = .ok (.iload 7, 2) := by decide +kernel
theorem dX1_mixBlock_126 : decode cX1_mixBlock 126 = .ok (.iand, 1) := by decide +kernel
theorem dX1_mixBlock_127 : decode cX1_mixBlock 127 = .ok (.ixor, 1) := by decide +kernel
theorem dX1_mixBlock_128 : decode cX1_mixBlock 128 = .ok (.iadd, 1) := by decide +kernel
theorem dX1_mixBlock_129 : decode cX1_mixBlock 129 = .ok (.getstatic 77, 3) := by decide +kernel
theorem dX1_mixBlock_132 : decode cX1_mixBlock 132 = .ok (.iload 9, 2) := by decide +kernel
theorem dX1_mixBlock_134 : decode cX1_mixBlock 134 = .ok (.iaload, 1) := by decide +kernel
theorem dX1_mixBlock_135 : decode cX1_mixBlock 135 = .ok (.iadd, 1) := by decide +kernel
theorem dX1_mixBlock_136 : decode cX1_mixBlock 136 = .ok (.aload_n 0, 1) := by decide +kernel
theorem dX1_mixBlock_137 : decode cX1_mixBlock 137 = .ok (.getfield 24, 3) := by decide +kernel
theorem dX1_mixBlock_140 : decode cX1_mixBlock 140 = .ok (.iload 9, 2) := by decide +kernel
theorem dX1_mixBlock_142 : decode cX1_mixBlock 142 = .ok (.iaload, 1) := by decide +kernel
theorem dX1_mixBlock_143 : decode cX1_mixBlock 143 = .ok (.iadd, 1) := by decide +kernel
theorem dX1_mixBlock_144 : decode cX1_mixBlock 144 = .ok (.istore 11, 2) := by decide +kernel
theorem dX1_mixBlock_146 : decode cX1_mixBlock 146 = .ok (.iload_n 1, 1) := by decide +kernel
theorem dX1_mixBlock_147 : decode cX1_mixBlock 147 = .ok (.iconst 2, 1) := by decide +kernel
theorem dX1_mixBlock_148 : decode cX1_mixBlock 148 = .ok (.iushr, 1) := by decide +kernel
theorem dX1_mixBlock_149 : decode cX1_mixBlock 149 = .ok (.iload_n 1, 1) := by decide +kernel
theorem dX1_mixBlock_150 : decode cX1_mixBlock 150 = .ok (.bipush 30, 2) := by decide +kernel
theorem dX1_mixBlock_152 : decode cX1_mixBlock 152 = .ok (.ishl, 1) := by decide +kernel
theorem dX1_mixBlock_153 : decode cX1_mixBlock 153 = .ok (.ior, 1) := by decide +kernel
theorem dX1_mixBlock_154 : decode cX1_mixBlock 154 = .ok (.iload_n 1, 1) := by decide +kernel
theorem dX1_mixBlock_155 : decode cX1_mixBlock 155 = .ok (.bipush 13, 2) := by decide +kernel
theorem dX1_mixBlock_157 : decode cX1_mixBlock 157 = .ok (.iushr, 1) := by decide +kernel
theorem dX1_mixBlock_158 : decode cX1_mixBlock 158 = .ok (.iload_n 1, 1) := by decide +kernel
theorem dX1_mixBlock_159 : decode cX1_mixBlock 159 = .ok (.bipush 19, 2) := by decide +kernel
theorem dX1_mixBlock_161 : decode cX1_mixBlock 161 = .ok (.ishl, 1) := by decide +kernel
theorem dX1_mixBlock_162 : decode cX1_mixBlock 162 = .ok (.ior, 1) := by decide +kernel
theorem dX1_mixBlock_163 : decode cX1_mixBlock 163 = .ok (.ixor, 1) := by decide +kernel
theorem dX1_mixBlock_164 : decode cX1_mixBlock 164 = .ok (.iload_n 1, 1) := by decide +kernel
theorem dX1_mixBlock_165 : decode cX1_mixBlock 165 = .ok (.bipush 22, 2) := by decide +kernel
theorem dX1_mixBlock_167 : decode cX1_mixBlock 167 = .ok (.iushr, 1) := by decide +kernel
theorem dX1_mixBlock_168 : decode cX1_mixBlock 168 = .ok (.iload_n 1, 1) := by decide +kernel
theorem dX1_mixBlock_169 : decode cX1_mixBlock 169 = .ok (.bipush 10, 2) := by decide +kernel
theorem dX1_mixBlock_171 : decode cX1_mixBlock 171 = .ok (.ishl, 1) := by decide +kernel
theorem dX1_mixBlock_172 : decode cX1_mixBlock 172 = .ok (.ior, 1) := by decide +kernel
theorem dX1_mixBlock_173 : decode cX1_mixBlock 173 = .ok (.ixor, 1) := by decide +kernel
theorem dX1_mixBlock_174 : decode cX1_mixBlock 174 = .ok (.istore 12, 2) := by decide +kernel
theorem dX1_mixBlock_176 : decode cX1_mixBlock 176 = .ok (.iload 12, 2) := by decide +kernel
theorem dX1_mixBlock_178 : decode cX1_mixBlock 178 = .ok (.iload_n 1, 1) := by decide +kernel
theorem dX1_mixBlock_179 : decode cX1_mixBlock 179 = .ok (.iload_n 2, 1) := by decide +kernel
theorem dX1_mixBlock_180 : decode cX1_mixBlock 180 = .ok (.iand, 1) := by decide +kernel
theorem dX1_mixBlock_181 : decode cX1_mixBlock 181 = .ok (.iload_n 1, 1) := by decide +kernel
theorem dX1_mixBlock_182 : decode cX1_mixBlock 182 = .ok (.iload_n 3, 1) := by decide +kernel
theorem dX1_mixBlock_183 : decode cX1_mixBlock 183 = .ok (.iand, 1) := by decide +kernel
theorem dX1_mixBlock_184 : decode cX1_mixBlock 184 = .ok (.ixor, 1) := by decide +kernel
theorem dX1_mixBlock_185 : decode cX1_mixBlock 185 = .ok (.iload_n 2, 1) := by decide +kernel
theorem dX1_mixBlock_186 : decode cX1_mixBlock 186 = .ok (.iload_n 3, 1) := by decide +kernel
theorem dX1_mixBlock_187 : decode cX1_mixBlock 187 = .ok (.iand, 1) := by decide +kernel
theorem dX1_mixBlock_188 : decode cX1_mixBlock 188 = .ok (.ixor, 1) := by decide +kernel
theorem dX1_mixBlock_189 : decode cX1_mixBlock 189 = .ok (.iadd, 1) := by decide +kernel
theorem dX1_mixBlock_190 : decode cX1_mixBlock 190 = .ok (.istore 13, 2) := by decide +kernel
theorem dX1_mixBlock_192 : decode cX1_mixBlock 192 = .ok (.iload 7, 2) := by decide +kernel
theorem dX1_mixBlock_194 : decode cX1_mixBlock 194 = .ok (.istore 8, 2) := by decide +kernel
theorem dX1_mixBlock_196 : decode cX1_mixBlock 196 = .ok (.iload 6, 2) := by decide +kernel
theorem dX1_mixBlock_198 : decode cX1_mixBlock 198 = .ok (.istore 7, 2) := by decide +kernel
theorem dX1_mixBlock_200 : decode cX1_mixBlock 200 = .ok (.iload 5, 2) := by decide +kernel
theorem dX1_mixBlock_202 : decode cX1_mixBlock 202 = .ok (.istore 6, 2) := by decide +kernel
theorem dX1_mixBlock_204 : decode cX1_mixBlock 204 = .ok (.iload 4, 2) := by decide +kernel
theorem dX1_mixBlock_206 : decode cX1_mixBlock 206 = .ok (.iload 11, 2) := by decide +kernel
theorem dX1_mixBlock_208 : decode cX1_mixBlock 208 = .ok (.iadd, 1) := by decide +kernel
theorem dX1_mixBlock_209 : decode cX1_mixBlock 209 = .ok (.istore 5, 2) := by decide +kernel
theorem dX1_mixBlock_211 : decode cX1_mixBlock 211 = .ok (.iload_n 3, 1) := by decide +kernel
theorem dX1_mixBlock_212 : decode cX1_mixBlock 212 = .ok (.istore 4, 2) := by decide +kernel
theorem dX1_mixBlock_214 : decode cX1_mixBlock 214 = .ok (.iload_n 2, 1) := by decide +kernel
theorem dX1_mixBlock_215 : decode cX1_mixBlock 215 = .ok (.istore_n 3, 1) := by decide +kernel
theorem dX1_mixBlock_216 : decode cX1_mixBlock 216 = .ok (.iload_n 1, 1) := by decide +kernel
theorem dX1_mixBlock_217 : decode cX1_mixBlock 217 = .ok (.istore_n 2, 1) := by decide +kernel
theorem dX1_mixBlock_218 : decode cX1_mixBlock 218 = .ok (.iload 11, 2) := by decide +kernel
theorem dX1_mixBlock_220 : decode cX1_mixBlock 220 = .ok (.iload 13, 2) := by decide +kernel
theorem dX1_mixBlock_222 : decode cX1_mixBlock 222 = .ok (.iadd, 1) := by decide +kernel
theorem dX1_mixBlock_223 : decode cX1_mixBlock 223 = .ok (.istore_n 1, 1) := by decide +kernel
theorem dX1_mixBlock_224 : decode cX1_mixBlock 224 = .ok (.iinc 9 1, 3) := by decide +kernel
theorem dX1_mixBlock_227 : decode cX1_mixBlock 227 = .ok (.goto (-161), 3) := by decide +kernel
theorem dX1_mixBlock_230 : decode cX1_mixBlock 230 = .ok (.aload_n 0, 1) := by decide +kernel
theorem dX1_mixBlock_231 : decode cX1_mixBlock 231 = .ok (.getfield 20, 3) := by decide +kernel
theorem dX1_mixBlock_234 : decode cX1_mixBlock 234 = .ok (.iconst 0, 1) := by decide +kernel
theorem dX1_mixBlock_235 : decode cX1_mixBlock 235 = .ok (.dup2, 1) := by decide +kernel
theorem dX1_mixBlock_236 : decode cX1_mixBlock 236 = .ok (.iaload, 1) := by decide +kernel
theorem dX1_mixBlock_237 : decode cX1_mixBlock 237 = .ok (.iload_n 1, 1) := by decide +kernel
theorem dX1_mixBlock_238 : decode cX1_mixBlock 238 = .ok (.iadd, 1) := by decide +kernel
theorem dX1_mixBlock_239 : decode cX1_mixBlock 239 = .ok (.iastore, 1) := by decide +kernel
theorem dX1_mixBlock_240 : decode cX1_mixBlock 240 = .ok (.aload_n 0, 1) := by decide +kernel
theorem dX1_mixBlock_241 : decode cX1_mixBlock 241 = .ok (.getfield 20, 3) := by decide +kernel
theorem dX1_mixBlock_244 : decode cX1_mixBlock 244 = .ok (.iconst 1, 1) := by decide +kernel
theorem dX1_mixBlock_245 : decode cX1_mixBlock 245 = .ok (.dup2, 1) := by decide +kernel
theorem dX1_mixBlock_246 : decode cX1_mixBlock 246 = .ok (.iaload, 1) := by decide +kernel
theorem dX1_mixBlock_247 : decode cX1_mixBlock 247 = .ok (.iload_n 2, 1) := by decide +kernel
theorem dX1_mixBlock_248 : decode cX1_mixBlock 248 = .ok (.iadd, 1) := by decide +kernel
theorem dX1_mixBlock_249 : decode cX1_mixBlock 249 = .ok (.iastore, 1) := by decide +kernel
theorem dX1_mixBlock_250 : decode cX1_mixBlock 250 = .ok (.aload_n 0, 1) := by decide +kernel
theorem dX1_mixBlock_251 : decode cX1_mixBlock 251 = .ok (.getfield 20, 3) := by decide +kernel
theorem dX1_mixBlock_254 : decode cX1_mixBlock 254 = .ok (.iconst 2, 1) := by decide +kernel
theorem dX1_mixBlock_255 : decode cX1_mixBlock 255 = .ok (.dup2, 1) := by decide +kernel
theorem dX1_mixBlock_256 : decode cX1_mixBlock 256 = .ok (.iaload, 1) := by decide +kernel
theorem dX1_mixBlock_257 : decode cX1_mixBlock 257 = .ok (.iload_n 3, 1) := by decide +kernel
theorem dX1_mixBlock_258 : decode cX1_mixBlock 258 = .ok (.iadd, 1) := by decide +kernel
theorem dX1_mixBlock_259 : decode cX1_mixBlock 259 = .ok (.iastore, 1) := by decide +kernel
theorem dX1_mixBlock_260 : decode cX1_mixBlock 260 = .ok (.aload_n 0, 1) := by decide +kernel
theorem dX1_mixBlock_261 : decode cX1_mixBlock 261 = .ok (.getfield 20, 3) := by decide +kernel
theorem dX1_mixBlock_264 : decode cX1_mixBlock 264 = .ok (.iconst 3, 1) := by decide +kernel
theorem dX1_mixBlock_265 : decode cX1_mixBlock 265 = .ok (.dup2, 1) := by decide +kernel
theorem dX1_mixBlock_266 : decode cX1_mixBlock 266 = .ok (.iaload, 1) := by decide +kernel
theorem dX1_mixBlock_267 : decode cX1_mixBlock 267 = .ok (.iload 4, 2) := by decide +kernel
theorem dX1_mixBlock_269 : decode cX1_mixBlock 269 = .ok (.iadd, 1) := by decide +kernel
theorem dX1_mixBlock_270 : decode cX1_mixBlock 270 = .ok (.iastore, 1) := by decide +kernel
theorem dX1_mixBlock_271 : decode cX1_mixBlock 271 = .ok (.aload_n 0, 1) := by decide +kernel
theorem dX1_mixBlock_272 : decode cX1_mixBlock 272 = .ok (.getfield 20, 3) := by decide +kernel
theorem dX1_mixBlock_275 : decode cX1_mixBlock 275 = .ok (.iconst 4, 1) := by decide +kernel
theorem dX1_mixBlock_276 : decode cX1_mixBlock 276 = .ok (.dup2, 1) := by decide +kernel
theorem dX1_mixBlock_277 : decode cX1_mixBlock 277 = .ok (.iaload, 1) := by decide +kernel
theorem dX1_mixBlock_278 : decode cX1_mixBlock 278 = .ok (.iload 5, 2) := by decide +kernel
theorem dX1_mixBlock_280 : decode cX1_mixBlock 280 = .ok (.iadd, 1) := by decide +kernel
theorem dX1_mixBlock_281 : decode cX1_mixBlock 281 = .ok (.iastore, 1) := by decide +kernel
theorem dX1_mixBlock_282 : decode cX1_mixBlock 282 = .ok (.aload_n 0, 1) := by decide +kernel
theorem dX1_mixBlock_283 : decode cX1_mixBlock 283 = .ok (.getfield 20, 3) := by decide +kernel
theorem dX1_mixBlock_286 : decode cX1_mixBlock 286 = .ok (.iconst 5, 1) := by decide +kernel
theorem dX1_mixBlock_287 : decode cX1_mixBlock 287 = .ok (.dup2, 1) := by decide +kernel
theorem dX1_mixBlock_288 : decode cX1_mixBlock 288 = .ok (.iaload, 1) := by decide +kernel
theorem dX1_mixBlock_289 : decode cX1_mixBlock 289 = .ok (.iload 6, 2) := by decide +kernel
theorem dX1_mixBlock_291 : decode cX1_mixBlock 291 = .ok (.iadd, 1) := by decide +kernel
theorem dX1_mixBlock_292 : decode cX1_mixBlock 292 = .ok (.iastore, 1) := by decide +kernel
theorem dX1_mixBlock_293 : decode cX1_mixBlock 293 = .ok (.aload_n 0, 1) := by decide +kernel
theorem dX1_mixBlock_294 : decode cX1_mixBlock 294 = .ok (.getfield 20, 3) := by decide +kernel
theorem dX1_mixBlock_297 : decode cX1_mixBlock 297 = .ok (.bipush 6, 2) := by decide +kernel
theorem dX1_mixBlock_299 : decode cX1_mixBlock 299 = .ok (.dup2, 1) := by decide +kernel
theorem dX1_mixBlock_300 : decode cX1_mixBlock 300 = .ok (.iaload, 1) := by decide +kernel
theorem dX1_mixBlock_301 : decode cX1_mixBlock 301 = .ok (.iload 7, 2) := by decide +kernel
theorem dX1_mixBlock_303 : decode cX1_mixBlock 303 = .ok (.iadd, 1) := by decide +kernel
theorem dX1_mixBlock_304 : decode cX1_mixBlock 304 = .ok (.iastore, 1) := by decide +kernel
theorem dX1_mixBlock_305 : decode cX1_mixBlock 305 = .ok (.aload_n 0, 1) := by decide +kernel
theorem dX1_mixBlock_306 : decode cX1_mixBlock 306 = .ok (.getfield 20, 3) := by decide +kernel
theorem dX1_mixBlock_309 : decode cX1_mixBlock 309 = .ok (.bipush 7, 2) := by decide +kernel
theorem dX1_mixBlock_311 : decode cX1_mixBlock 311 = .ok (.dup2, 1) := by decide +kernel
theorem dX1_mixBlock_312 : decode cX1_mixBlock 312 = .ok (.iaload, 1) := by decide +kernel
theorem dX1_mixBlock_313 : decode cX1_mixBlock 313 = .ok (.iload 8, 2) := by decide +kernel
theorem dX1_mixBlock_315 : decode cX1_mixBlock 315 = .ok (.iadd, 1) := by decide +kernel
theorem dX1_mixBlock_316 : decode cX1_mixBlock 316 = .ok (.iastore, 1) := by decide +kernel
theorem dX1_mixBlock_317 : decode cX1_mixBlock 317 = .ok (.return_, 1) := by decide +kernel
theorem dX2_init_0 : decode cX2_init 0 = .ok (.aload_n 0, 1) := by decide +kernel
theorem dX2_init_1 : decode cX2_init 1 = .ok (.invokespecial 3, 3) := by decide +kernel
theorem dX2_init_4 : decode cX2_init 4 = .ok (.aload_n 0, 1) := by decide +kernel
theorem dX2_init_5 : decode cX2_init 5 = .ok (.sipush 256, 3) := by decide +kernel
theorem dX2_init_8 : decode cX2_init 8 = .ok (.newarray .byte, 2) := by decide +kernel
theorem dX2_init_10 : decode cX2_init 10 = .ok (.putfield 11, 3) := by decide +kernel
theorem dX2_init_13 : decode cX2_init 13 = .ok (.aload_n 0, 1) := by decide +kernel
theorem dX2_init_14 : decode cX2_init 14 = .ok (.bipush 32, 2) := by decide +kernel
theorem dX2_init_16 : decode cX2_init 16 = .ok (.newarray .byte, 2) := by decide +kernel
theorem dX2_init_18 : decode cX2_init 18 = .ok (.putfield 15, 3) := by decide +kernel
theorem dX2_init_21 : decode cX2_init 21 = .ok (.return_, 1) := by decide +kernel
theorem dX2_mixIn_0 : decode cX2_mixIn 0 = .ok (.aload_n 0, 1) := by decide +kernel
theorem dX2_mixIn_1 : decode cX2_mixIn 1 = .ok (.getfield 11, 3) := by decide +kernel
theorem dX2_mixIn_4 : decode cX2_mixIn 4 = .ok (.iload_n 1, 1) := by decide +kernel
theorem dX2_mixIn_5 : decode cX2_mixIn 5 = .ok (.bipush 32, 2) := by decide +kernel
theorem dX2_mixIn_7 : decode cX2_mixIn 7 = .ok (.imul, 1) := by decide +kernel
theorem dX2_mixIn_8 : decode cX2_mixIn 8 = .ok (.aload_n 0, 1) := by decide +kernel
theorem dX2_mixIn_9 : decode cX2_mixIn 9 = .ok (.getfield 15, 3) := by decide +kernel
theorem dX2_mixIn_12 : decode cX2_mixIn 12 = .ok (.iconst 0, 1) := by decide +kernel
theorem dX2_mixIn_13 : decode cX2_mixIn 13 = .ok (.bipush 32, 2) := by decide +kernel
theorem dX2_mixIn_15 : decode cX2_mixIn 15 = .ok (.invokestatic 18, 3) := by decide +kernel
theorem dX2_mixIn_18 : decode cX2_mixIn 18 = .ok (.aload_n 3, 1) := by decide +kernel
theorem dX2_mixIn_19 : decode cX2_mixIn 19 = .ok (.invokevirtual 24, 3) := by decide +kernel
theorem dX2_mixIn_22 : decode cX2_mixIn 22 = .ok (.astore 4, 2) := by decide +kernel
theorem dX2_mixIn_24 : decode cX2_mixIn 24 = .ok (.aload 4, 2) := by decide +kernel
theorem dX2_mixIn_26 : decode cX2_mixIn 26 = .ok (.aload_n 0, 1) := by decide +kernel
theorem dX2_mixIn_27 : decode cX2_mixIn 27 = .ok (.getfield 15, 3) := by decide +kernel
theorem dX2_mixIn_30 : decode cX2_mixIn 30 = .ok (.bipush 32, 2) := by decide +kernel
theorem dX2_mixIn_32 : decode cX2_mixIn 32 = .ok (.invokevirtual 30, 3) := by decide +kernel
theorem dX2_mixIn_35 : decode cX2_mixIn 35 = .ok (.aload 4, 2) := by decide +kernel
theorem dX2_mixIn_37 : decode cX2_mixIn 37 = .ok (.aload_n 2, 1) := by decide +kernel
theorem dX2_mixIn_38 : decode cX2_mixIn 38 = .ok (.bipush 32, 2) := by decide +kernel
theorem dX2_mixIn_40 : decode cX2_mixIn 40 = .ok (.invokevirtual 30, 3) := by decide +kernel
theorem dX2_mixIn_43 : decode cX2_mixIn 43 = .ok (.aload_n 3, 1) := by decide +kernel
theorem dX2_mixIn_44 : decode cX2_mixIn 44 = .ok (.aload_n 0, 1) := by decide +kernel
theorem dX2_mixIn_45 : decode cX2_mixIn 45 = .ok (.getfield 15, 3) := by decide +kernel
theorem dX2_mixIn_48 : decode cX2_mixIn 48 = .ok (.invokevirtual 36, 3) := by decide +kernel
theorem dX2_mixIn_51 : decode cX2_mixIn 51 = .ok (.aload_n 0, 1) := by decide +kernel
theorem dX2_mixIn_52 : decode cX2_mixIn 52 = .ok (.getfield 15, 3) := by decide +kernel
theorem dX2_mixIn_55 : decode cX2_mixIn 55 = .ok (.iconst 0, 1) := by decide +kernel
theorem dX2_mixIn_56 : decode cX2_mixIn 56 = .ok (.aload_n 0, 1) := by decide +kernel
theorem dX2_mixIn_57 : decode cX2_mixIn 57 = .ok (.getfield 11, 3) := by decide +kernel
theorem dX2_mixIn_60 : decode cX2_mixIn 60 = .ok (.iload_n 1, 1) := by decide +kernel
theorem dX2_mixIn_61 : decode cX2_mixIn 61 = .ok (.bipush 32, 2) := by decide +kernel
theorem dX2_mixIn_63 : decode cX2_mixIn 63 = .ok (.imul, 1) := by decide +kernel
theorem dX2_mixIn_64 : decode cX2_mixIn 64 = .ok (.bipush 32, 2) := by decide +kernel
theorem dX2_mixIn_66 : decode cX2_mixIn 66 = .ok (.invokestatic 18, 3) := by decide +kernel
theorem dX2_mixIn_69 : decode cX2_mixIn 69 = .ok (.aload_n 0, 1) := by decide +kernel
theorem dX2_mixIn_70 : decode cX2_mixIn 70 = .ok (.dup, 1) := by decide +kernel
theorem dX2_mixIn_71 : decode cX2_mixIn 71 = .ok (.getfield 40, 3) := by decide +kernel
theorem dX2_mixIn_74 : decode cX2_mixIn 74 = .ok (.iconst 1, 1) := by decide +kernel
theorem dX2_mixIn_75 : decode cX2_mixIn 75 = .ok (.iadd, 1) := by decide +kernel
theorem dX2_mixIn_76 : decode cX2_mixIn 76 = .ok (.putfield 40, 3) := by decide +kernel
theorem dX2_mixIn_79 : decode cX2_mixIn 79 = .ok (.return_, 1) := by decide +kernel
theorem dX2_zero_0 : decode cX2_zero 0 = .ok (.iconst 0, 1) := by decide +kernel
theorem dX2_zero_1 : decode cX2_zero 1 = .ok (.istore_n 2, 1) := by decide +kernel
theorem dX2_zero_2 : decode cX2_zero 2 = .ok (.iload_n 2, 1) := by decide +kernel
theorem dX2_zero_3 : decode cX2_zero 3 = .ok (.bipush 32, 2) := by decide +kernel
theorem dX2_zero_5 : decode cX2_zero 5 = .ok (.if_icmp .ge 21, 3) := by decide +kernel
theorem dX2_zero_8 : decode cX2_zero 8 = .ok (.aload_n 0, 1) := by decide +kernel
theorem dX2_zero_9 : decode cX2_zero 9 = .ok (.getfield 11, 3) := by decide +kernel
theorem dX2_zero_12 : decode cX2_zero 12 = .ok (.iload_n 1, 1) := by decide +kernel
theorem dX2_zero_13 : decode cX2_zero 13 = .ok (.bipush 32, 2) := by decide +kernel
theorem dX2_zero_15 : decode cX2_zero 15 = .ok (.imul, 1) := by decide +kernel
theorem dX2_zero_16 : decode cX2_zero 16 = .ok (.iload_n 2, 1) := by decide +kernel
theorem dX2_zero_17 : decode cX2_zero 17 = .ok (.iadd, 1) := by decide +kernel
theorem dX2_zero_18 : decode cX2_zero 18 = .ok (.iconst 0, 1) := by decide +kernel
theorem dX2_zero_19 : decode cX2_zero 19 = .ok (.bastore, 1) := by decide +kernel
theorem dX2_zero_20 : decode cX2_zero 20 = .ok (.iinc 2 1, 3) := by decide +kernel
theorem dX2_zero_23 : decode cX2_zero 23 = .ok (.goto (-21), 3) := by decide +kernel
theorem dX2_zero_26 : decode cX2_zero 26 = .ok (.aload_n 0, 1) := by decide +kernel
theorem dX2_zero_27 : decode cX2_zero 27 = .ok (.dup, 1) := by decide +kernel
theorem dX2_zero_28 : decode cX2_zero 28 = .ok (.getfield 40, 3) := by decide +kernel
theorem dX2_zero_31 : decode cX2_zero 31 = .ok (.iconst 1, 1) := by decide +kernel
theorem dX2_zero_32 : decode cX2_zero 32 = .ok (.iadd, 1) := by decide +kernel
theorem dX2_zero_33 : decode cX2_zero 33 = .ok (.putfield 40, 3) := by decide +kernel
theorem dX2_zero_36 : decode cX2_zero 36 = .ok (.return_, 1) := by decide +kernel
theorem dX2_measure_0 : decode cX2_measure 0 = .ok (.aload_n 2, 1) := by decide +kernel
theorem dX2_measure_1 : decode cX2_measure 1 = .ok (.invokevirtual 24, 3) := by decide +kernel
theorem dX2_measure_4 : decode cX2_measure 4 = .ok (.astore 4, 2) := by decide +kernel
theorem dX2_measure_6 : decode cX2_measure 6 = .ok (.iconst 0, 1) := by decide +kernel
theorem dX2_measure_7 : decode cX2_measure 7 = .ok (.istore 5, 2) := by decide +kernel
theorem dX2_measure_9 : decode cX2_measure 9 = .ok (.iload 5, 2) := by decide +kernel
theorem dX2_measure_11 : decode cX2_measure 11 = .ok (.bipush 8, 2) := by decide +kernel
theorem dX2_measure_13 : decode cX2_measure 13 = .ok (.if_icmp .ge 48, 3) := by decide +kernel
theorem dX2_measure_16 : decode cX2_measure 16 = .ok (.iload_n 1, 1) := by decide +kernel
theorem dX2_measure_17 : decode cX2_measure 17 = .ok (.iload 5, 2) := by decide +kernel
theorem dX2_measure_19 : decode cX2_measure 19 = .ok (.iushr, 1) := by decide +kernel
theorem dX2_measure_20 : decode cX2_measure 20 = .ok (.iconst 1, 1) := by decide +kernel
theorem dX2_measure_21 : decode cX2_measure 21 = .ok (.iand, 1) := by decide +kernel
theorem dX2_measure_22 : decode cX2_measure 22 = .ok (.ifCond .eq 33, 3) := by decide +kernel
theorem dX2_measure_25 : decode cX2_measure 25 = .ok (.aload_n 0, 1) := by decide +kernel
theorem dX2_measure_26 : decode cX2_measure 26 = .ok (.getfield 11, 3) := by decide +kernel
theorem dX2_measure_29 : decode cX2_measure 29 = .ok (.iload 5, 2) := by decide +kernel
theorem dX2_measure_31 : decode cX2_measure 31 = .ok (.bipush 32, 2) := by decide +kernel
theorem dX2_measure_33 : decode cX2_measure 33 = .ok (.imul, 1) := by decide +kernel
theorem dX2_measure_34 : decode cX2_measure 34 = .ok (.aload_n 0, 1) := by decide +kernel
theorem dX2_measure_35 : decode cX2_measure 35 = .ok (.getfield 15, 3) := by decide +kernel
theorem dX2_measure_38 : decode cX2_measure 38 = .ok (.iconst 0, 1) := by decide +kernel
theorem dX2_measure_39 : decode cX2_measure 39 = .ok (.bipush 32, 2) := by decide +kernel
theorem dX2_measure_41 : decode cX2_measure 41 = .ok (.invokestatic 18, 3) := by decide +kernel
theorem dX2_measure_44 : decode cX2_measure 44 = .ok (.aload 4, 2) := by decide +kernel
theorem dX2_measure_46 : decode cX2_measure 46 = .ok (.aload_n 0, 1) := by decide +kernel
theorem dX2_measure_47 : decode cX2_measure 47 = .ok (.getfield 15, 3) := by decide +kernel
theorem dX2_measure_50 : decode cX2_measure 50 = .ok (.bipush 32, 2) := by decide +kernel
theorem dX2_measure_52 : decode cX2_measure 52 = .ok (.invokevirtual 30, 3) := by decide +kernel
theorem dX2_measure_55 : decode cX2_measure 55 = .ok (.iinc 5 1, 3) := by decide +kernel
theorem dX2_measure_58 : decode cX2_measure 58 = .ok (.goto (-49), 3) := by decide +kernel
theorem dX2_measure_61 : decode cX2_measure 61 = .ok (.aload_n 2, 1) := by decide +kernel
theorem dX2_measure_62 : decode cX2_measure 62 = .ok (.aload_n 3, 1) := by decide +kernel
theorem dX2_measure_63 : decode cX2_measure 63 = .ok (.invokevirtual 36, 3) := by decide +kernel
theorem dX2_measure_66 : decode cX2_measure 66 = .ok (.return_, 1) := by decide +kernel
theorem dX3_init_0 : decode cX3_init 0 = .ok (.aload_n 0, 1) := by decide +kernel
theorem dX3_init_1 : decode cX3_init 1 = .ok (.invokespecial 3, 3) := by decide +kernel
theorem dX3_init_4 : decode cX3_init 4 = .ok (.aload_n 0, 1) := by decide +kernel
theorem dX3_init_5 : decode cX3_init 5 = .ok (.bipush 32, 2) := by decide +kernel
theorem dX3_init_7 : decode cX3_init 7 = .ok (.newarray .byte, 2) := by decide +kernel
theorem dX3_init_9 : decode cX3_init 9 = .ok (.putfield 9, 3) := by decide +kernel
theorem dX3_init_12 : decode cX3_init 12 = .ok (.aload_n 0, 1) := by decide +kernel
theorem dX3_init_13 : decode cX3_init 13 = .ok (.bipush 32, 2) := by decide +kernel
theorem dX3_init_15 : decode cX3_init 15 = .ok (.newarray .byte, 2) := by decide +kernel
theorem dX3_init_17 : decode cX3_init 17 = .ok (.putfield 15, 3) := by decide +kernel
theorem dX3_init_20 : decode cX3_init 20 = .ok (.aload_n 0, 1) := by decide +kernel
theorem dX3_init_21 : decode cX3_init 21 = .ok (.bipush 32, 2) := by decide +kernel
theorem dX3_init_23 : decode cX3_init 23 = .ok (.newarray .byte, 2) := by decide +kernel
theorem dX3_init_25 : decode cX3_init 25 = .ok (.putfield 18, 3) := by decide +kernel
theorem dX3_init_28 : decode cX3_init 28 = .ok (.aload_n 0, 1) := by decide +kernel
theorem dX3_init_29 : decode cX3_init 29 = .ok (.aload_n 1, 1) := by decide +kernel
theorem dX3_init_30 : decode cX3_init 30 = .ok (.putfield 21, 3) := by decide +kernel
theorem dX3_init_33 : decode cX3_init 33 = .ok (.aload_n 1, 1) := by decide +kernel
theorem dX3_init_34 : decode cX3_init 34 = .ok (.invokevirtual 25, 3) := by decide +kernel
theorem dX3_init_37 : decode cX3_init 37 = .ok (.astore_n 3, 1) := by decide +kernel
theorem dX3_init_38 : decode cX3_init 38 = .ok (.aload_n 3, 1) := by decide +kernel
theorem dX3_init_39 : decode cX3_init 39 = .ok (.bipush 83, 2) := by decide +kernel
theorem dX3_init_41 : decode cX3_init 41 = .ok (.invokevirtual 31, 3) := by decide +kernel
theorem dX3_init_44 : decode cX3_init 44 = .ok (.aload_n 3, 1) := by decide +kernel
theorem dX3_init_45 : decode cX3_init 45 = .ok (.bipush 69, 2) := by decide +kernel
theorem dX3_init_47 : decode cX3_init 47 = .ok (.invokevirtual 31, 3) := by decide +kernel
theorem dX3_init_50 : decode cX3_init 50 = .ok (.aload_n 3, 1) := by decide +kernel
theorem dX3_init_51 : decode cX3_init 51 = .ok (.bipush 69, 2) := by decide +kernel
theorem dX3_init_53 : decode cX3_init 53 = .ok (.invokevirtual 31, 3) := by decide +kernel
theorem dX3_init_56 : decode cX3_init 56 = .ok (.aload_n 3, 1) := by decide +kernel
theorem dX3_init_57 : decode cX3_init 57 = .ok (.bipush 68, 2) := by decide +kernel
theorem dX3_init_59 : decode cX3_init 59 = .ok (.invokevirtual 31, 3) := by decide +kernel
theorem dX3_init_62 : decode cX3_init 62 = .ok (.aload_n 3, 1) := by decide +kernel
theorem dX3_init_63 : decode cX3_init 63 = .ok (.iload_n 2, 1) := by decide +kernel
theorem dX3_init_64 : decode cX3_init 64 = .ok (.invokevirtual 37, 3) := by decide +kernel
theorem dX3_init_67 : decode cX3_init 67 = .ok (.aload_n 1, 1) := by decide +kernel
theorem dX3_init_68 : decode cX3_init 68 = .ok (.aload_n 0, 1) := by decide +kernel
theorem dX3_init_69 : decode cX3_init 69 = .ok (.getfield 9, 3) := by decide +kernel
theorem dX3_init_72 : decode cX3_init 72 = .ok (.invokevirtual 40, 3) := by decide +kernel
theorem dX3_init_75 : decode cX3_init 75 = .ok (.return_, 1) := by decide +kernel
theorem dX3_renew_0 : decode cX3_renew 0 = .ok (.aload_n 0, 1) := by decide +kernel
theorem dX3_renew_1 : decode cX3_renew 1 = .ok (.getfield 21, 3) := by decide +kernel
theorem dX3_renew_4 : decode cX3_renew 4 = .ok (.invokevirtual 25, 3) := by decide +kernel
theorem dX3_renew_7 : decode cX3_renew 7 = .ok (.aload_n 0, 1) := by decide +kernel
theorem dX3_renew_8 : decode cX3_renew 8 = .ok (.getfield 9, 3) := by decide +kernel
theorem dX3_renew_11 : decode cX3_renew 11 = .ok (.bipush 32, 2) := by decide +kernel
theorem dX3_renew_13 : decode cX3_renew 13 = .ok (.invokevirtual 44, 3) := by decide +kernel
theorem dX3_renew_16 : decode cX3_renew 16 = .ok (.aload_n 0, 1) := by decide +kernel
theorem dX3_renew_17 : decode cX3_renew 17 = .ok (.getfield 21, 3) := by decide +kernel
theorem dX3_renew_20 : decode cX3_renew 20 = .ok (.aload_n 0, 1) := by decide +kernel
theorem dX3_renew_21 : decode cX3_renew 21 = .ok (.getfield 9, 3) := by decide +kernel
theorem dX3_renew_24 : decode cX3_renew 24 = .ok (.invokevirtual 40, 3) := by decide +kernel
theorem dX3_renew_27 : decode cX3_renew 27 = .ok (.return_, 1) := by decide +kernel
theorem dX3_sign_0 : decode cX3_sign 0 = .ok (.aload_n 0, 1) := by decide +kernel
theorem dX3_sign_1 : decode cX3_sign 1 = .ok (.getfield 21, 3) := by decide +kernel
theorem dX3_sign_4 : decode cX3_sign 4 = .ok (.aload_n 0, 1) := by decide +kernel
theorem dX3_sign_5 : decode cX3_sign 5 = .ok (.getfield 9, 3) := by decide +kernel
theorem dX3_sign_8 : decode cX3_sign 8 = .ok (.invokevirtual 48, 3) := by decide +kernel
theorem dX3_sign_11 : decode cX3_sign 11 = .ok (.bipush 81, 2) := by decide +kernel
theorem dX3_sign_13 : decode cX3_sign 13 = .ok (.invokevirtual 31, 3) := by decide +kernel
theorem dX3_sign_16 : decode cX3_sign 16 = .ok (.aload_n 0, 1) := by decide +kernel
theorem dX3_sign_17 : decode cX3_sign 17 = .ok (.getfield 21, 3) := by decide +kernel
theorem dX3_sign_20 : decode cX3_sign 20 = .ok (.aload_n 0, 1) := by decide +kernel
theorem dX3_sign_21 : decode cX3_sign 21 = .ok (.getfield 9, 3) := by decide +kernel
theorem dX3_sign_24 : decode cX3_sign 24 = .ok (.aload_n 0, 1) := by decide +kernel
theorem dX3_sign_25 : decode cX3_sign 25 = .ok (.getfield 15, 3) := by decide +kernel
theorem dX3_sign_28 : decode cX3_sign 28 = .ok (.invokevirtual 52, 3) := by decide +kernel
theorem dX3_sign_31 : decode cX3_sign 31 = .ok (.aload_n 0, 1) := by decide +kernel
theorem dX3_sign_32 : decode cX3_sign 32 = .ok (.aload_n 1, 1) := by decide +kernel
theorem dX3_sign_33 : decode cX3_sign 33 = .ok (.getfield 56, 3) := by decide +kernel
theorem dX3_sign_36 : decode cX3_sign 36 = .ok (.aload_n 1, 1) := by decide +kernel
theorem dX3_sign_37 : decode cX3_sign 37 = .ok (.getfield 59, 3) := by decide +kernel
theorem dX3_sign_40 : decode cX3_sign 40 = .ok (.invokevirtual 63, 3) := by decide +kernel
theorem dX3_sign_43 : decode cX3_sign 43 = .ok (.aload_n 1, 1) := by decide +kernel
theorem dX3_sign_44 : decode cX3_sign 44 = .ok (.aload_n 0, 1) := by decide +kernel
theorem dX3_sign_45 : decode cX3_sign 45 = .ok (.getfield 18, 3) := by decide +kernel
theorem dX3_sign_48 : decode cX3_sign 48 = .ok (.bipush 32, 2) := by decide +kernel
theorem dX3_sign_50 : decode cX3_sign 50 = .ok (.invokevirtual 44, 3) := by decide +kernel
theorem dX3_sign_53 : decode cX3_sign 53 = .ok (.return_, 1) := by decide +kernel
theorem dX3_wrap_0 : decode cX3_wrap 0 = .ok (.aload 4, 2) := by decide +kernel
theorem dX3_wrap_2 : decode cX3_wrap 2 = .ok (.iconst 0, 1) := by decide +kernel
theorem dX3_wrap_3 : decode cX3_wrap 3 = .ok (.putfield 59, 3) := by decide +kernel
theorem dX3_wrap_6 : decode cX3_wrap 6 = .ok (.aload 4, 2) := by decide +kernel
theorem dX3_wrap_8 : decode cX3_wrap 8 = .ok (.aload_n 0, 1) := by decide +kernel
theorem dX3_wrap_9 : decode cX3_wrap 9 = .ok (.getfield 66, 3) := by decide +kernel
theorem dX3_wrap_12 : decode cX3_wrap 12 = .ok (.invokevirtual 37, 3) := by decide +kernel
theorem dX3_wrap_15 : decode cX3_wrap 15 = .ok (.aload 4, 2) := by decide +kernel
theorem dX3_wrap_17 : decode cX3_wrap 17 = .ok (.aload_n 3, 1) := by decide +kernel
theorem dX3_wrap_18 : decode cX3_wrap 18 = .ok (.bipush 32, 2) := by decide +kernel
theorem dX3_wrap_20 : decode cX3_wrap 20 = .ok (.invokevirtual 44, 3) := by decide +kernel
theorem dX3_wrap_23 : decode cX3_wrap 23 = .ok (.aload 4, 2) := by decide +kernel
theorem dX3_wrap_25 : decode cX3_wrap 25 = .ok (.aload_n 2, 1) := by decide +kernel
theorem dX3_wrap_26 : decode cX3_wrap 26 = .ok (.bipush 32, 2) := by decide +kernel
theorem dX3_wrap_28 : decode cX3_wrap 28 = .ok (.invokevirtual 44, 3) := by decide +kernel
theorem dX3_wrap_31 : decode cX3_wrap 31 = .ok (.aload 4, 2) := by decide +kernel
theorem dX3_wrap_33 : decode cX3_wrap 33 = .ok (.aload_n 1, 1) := by decide +kernel
theorem dX3_wrap_34 : decode cX3_wrap 34 = .ok (.getfield 59, 3) := by decide +kernel
theorem dX3_wrap_37 : decode cX3_wrap 37 = .ok (.invokevirtual 31, 3) := by decide +kernel
theorem dX3_wrap_40 : decode cX3_wrap 40 = .ok (.aload 4, 2) := by decide +kernel
theorem dX3_wrap_42 : decode cX3_wrap 42 = .ok (.aload_n 1, 1) := by decide +kernel
theorem dX3_wrap_43 : decode cX3_wrap 43 = .ok (.getfield 56, 3) := by decide +kernel
theorem dX3_wrap_46 : decode cX3_wrap 46 = .ok (.aload_n 1, 1) := by decide +kernel
theorem dX3_wrap_47 : decode cX3_wrap 47 = .ok (.getfield 59, 3) := by decide +kernel
theorem dX3_wrap_50 : decode cX3_wrap 50 = .ok (.invokevirtual 44, 3) := by decide +kernel
theorem dX3_wrap_53 : decode cX3_wrap 53 = .ok (.aload_n 0, 1) := by decide +kernel
theorem dX3_wrap_54 : decode cX3_wrap 54 = .ok (.bipush 69, 2) := by decide +kernel
theorem dX3_wrap_56 : decode cX3_wrap 56 = .ok (.aload_n 0, 1) := by decide +kernel
theorem dX3_wrap_57 : decode cX3_wrap 57 = .ok (.getfield 66, 3) := by decide +kernel
theorem dX3_wrap_60 : decode cX3_wrap 60 = .ok (.invokevirtual 69, 3) := by decide +kernel
theorem dX3_wrap_63 : decode cX3_wrap 63 = .ok (.aload_n 0, 1) := by decide +kernel
theorem dX3_wrap_64 : decode cX3_wrap 64 = .ok (.aload 4, 2) := by decide +kernel
theorem dX3_wrap_66 : decode cX3_wrap 66 = .ok (.getfield 56, 3) := by decide +kernel
theorem dX3_wrap_69 : decode cX3_wrap 69 = .ok (.aload 4, 2) := by decide +kernel
theorem dX3_wrap_71 : decode cX3_wrap 71 = .ok (.getfield 59, 3) := by decide +kernel
theorem dX3_wrap_74 : decode cX3_wrap 74 = .ok (.invokevirtual 73, 3) := by decide +kernel
theorem dX3_wrap_77 : decode cX3_wrap 77 = .ok (.aload_n 0, 1) := by decide +kernel
theorem dX3_wrap_78 : decode cX3_wrap 78 = .ok (.bipush 77, 2) := by decide +kernel
theorem dX3_wrap_80 : decode cX3_wrap 80 = .ok (.aload_n 0, 1) := by decide +kernel
theorem dX3_wrap_81 : decode cX3_wrap 81 = .ok (.getfield 66, 3) := by decide +kernel
theorem dX3_wrap_84 : decode cX3_wrap 84 = .ok (.invokevirtual 69, 3) := by decide +kernel
theorem dX3_wrap_87 : decode cX3_wrap 87 = .ok (.aload_n 0, 1) := by decide +kernel
theorem dX3_wrap_88 : decode cX3_wrap 88 = .ok (.aload 4, 2) := by decide +kernel
theorem dX3_wrap_90 : decode cX3_wrap 90 = .ok (.getfield 56, 3) := by decide +kernel
theorem dX3_wrap_93 : decode cX3_wrap 93 = .ok (.aload 4, 2) := by decide +kernel
theorem dX3_wrap_95 : decode cX3_wrap 95 = .ok (.getfield 59, 3) := by decide +kernel
theorem dX3_wrap_98 : decode cX3_wrap 98 = .ok (.invokevirtual 63, 3) := by decide +kernel
theorem dX3_wrap_101 : decode cX3_wrap 101 = .ok (.aload 4, 2) := by decide +kernel
theorem dX3_wrap_103 : decode cX3_wrap 103 = .ok (.aload_n 0, 1) := by decide +kernel
theorem dX3_wrap_104 : decode cX3_wrap 104 = .ok (.getfield 18, 3) := by decide +kernel
theorem dX3_wrap_107 : decode cX3_wrap 107 = .ok (.bipush 32, 2) := by decide +kernel
theorem dX3_wrap_109 : decode cX3_wrap 109 = .ok (.invokevirtual 44, 3) := by decide +kernel
theorem dX3_wrap_112 : decode cX3_wrap 112 = .ok (.aload_n 0, 1) := by decide +kernel
theorem dX3_wrap_113 : decode cX3_wrap 113 = .ok (.dup, 1) := by decide +kernel
theorem dX3_wrap_114 : decode cX3_wrap 114 = .ok (.getfield 66, 3) := by decide +kernel
theorem dX3_wrap_117 : decode cX3_wrap 117 = .ok (.iconst 1, 1) := by decide +kernel
theorem dX3_wrap_118 : decode cX3_wrap 118 = .ok (.iadd, 1) := by decide +kernel
theorem dX3_wrap_119 : decode cX3_wrap 119 = .ok (.putfield 66, 3) := by decide +kernel
theorem dX3_wrap_122 : decode cX3_wrap 122 = .ok (.return_, 1) := by decide +kernel
theorem dX3_unwrap_0 : decode cX3_unwrap 0 = .ok (.aload_n 1, 1) := by decide +kernel
theorem dX3_unwrap_1 : decode cX3_unwrap 1 = .ok (.getfield 59, 3) := by decide +kernel
theorem dX3_unwrap_4 : decode cX3_unwrap 4 = .ok (.bipush 101, 2) := by decide +kernel
theorem dX3_unwrap_6 : decode cX3_unwrap 6 = .ok (.isub, 1) := by decide +kernel
theorem dX3_unwrap_7 : decode cX3_unwrap 7 = .ok (.istore_n 2, 1) := by decide +kernel
theorem dX3_unwrap_8 : decode cX3_unwrap 8 = .ok (.iload_n 2, 1) := by decide +kernel
theorem dX3_unwrap_9 : decode cX3_unwrap 9 = .ok (.ifCond .lt 10, 3) := by decide +kernel
theorem dX3_unwrap_12 : decode cX3_unwrap 12 = .ok (.iload_n 2, 1) := by decide +kernel
theorem dX3_unwrap_13 : decode cX3_unwrap 13 = .ok (.sipush 128, 3) := by decide +kernel
theorem dX3_unwrap_16 : decode cX3_unwrap 16 = .ok (.if_icmp .le 5, 3) := by decide +kernel
theorem dX3_unwrap_19 : decode cX3_unwrap 19 = .ok (.iconst 0, 1) := by decide +kernel
theorem dX3_unwrap_20 : decode cX3_unwrap 20 = .ok (.ireturn, 1) := by decide +kernel
theorem dX3_unwrap_21 : decode cX3_unwrap 21 = .ok (.aload_n 1, 1) := by decide +kernel
theorem dX3_unwrap_22 : decode cX3_unwrap 22 = .ok (.getfield 56, 3) := by decide +kernel
theorem dX3_unwrap_25 : decode cX3_unwrap 25 = .ok (.astore_n 3, 1) := by decide +kernel
theorem dX3_unwrap_26 : decode cX3_unwrap 26 = .ok (.aload_n 1, 1) := by decide +kernel
theorem dX3_unwrap_27 : decode cX3_unwrap 27 = .ok (.iconst 0, 1) := by decide +kernel
theorem dX3_unwrap_28 : decode cX3_unwrap 28 = .ok (.invokevirtual 76, 3) := by decide +kernel
theorem dX3_unwrap_31 : decode cX3_unwrap 31 = .ok (.istore 4, 2) := by decide +kernel
theorem dX3_unwrap_33 : decode cX3_unwrap 33 = .ok (.aload_n 0, 1) := by decide +kernel
theorem dX3_unwrap_34 : decode cX3_unwrap 34 = .ok (.bipush 77, 2) := by decide +kernel
theorem dX3_unwrap_36 : decode cX3_unwrap 36 = .ok (.iload 4, 2) := by decide +kernel
theorem dX3_unwrap_38 : decode cX3_unwrap 38 = .ok (.invokevirtual 69, 3) := by decide +kernel
theorem dX3_unwrap_41 : decode cX3_unwrap 41 = .ok (.aload_n 0, 1) := by decide +kernel
theorem dX3_unwrap_42 : decode cX3_unwrap 42 = .ok (.aload_n 3, 1) := by decide +kernel
theorem dX3_unwrap_43 : decode cX3_unwrap 43 = .ok (.bipush 69, 2) := by decide +kernel
theorem dX3_unwrap_45 : decode cX3_unwrap 45 = .ok (.iload_n 2, 1) := by decide +kernel
theorem dX3_unwrap_46 : decode cX3_unwrap 46 = .ok (.iadd, 1) := by decide +kernel
theorem dX3_unwrap_47 : decode cX3_unwrap 47 = .ok (.invokevirtual 63, 3) := by decide +kernel
theorem dX3_unwrap_50 : decode cX3_unwrap 50 = .ok (.aload_n 0, 1) := by decide +kernel
theorem dX3_unwrap_51 : decode cX3_unwrap 51 = .ok (.getfield 18, 3) := by decide +kernel
theorem dX3_unwrap_54 : decode cX3_unwrap 54 = .ok (.aload_n 3, 1) := by decide +kernel
theorem dX3_unwrap_55 : decode cX3_unwrap 55 = .ok (.bipush 69, 2) := by decide +kernel
theorem dX3_unwrap_57 : decode cX3_unwrap 57 = .ok (.iload_n 2, 1) := by decide +kernel
theorem dX3_unwrap_58 : decode cX3_unwrap 58 = .ok (.iadd, 1) := by decide +kernel
theorem dX3_unwrap_59 : decode cX3_unwrap 59 = .ok (.invokestatic 80, 3) := by decide +kernel
theorem dX3_unwrap_62 : decode cX3_unwrap 62 = .ok (.ifCond .ne 5, 3) := by decide +kernel
theorem dX3_unwrap_65 : decode cX3_unwrap 65 = .ok (.iconst 0, 1) := by decide +kernel
theorem dX3_unwrap_66 : decode cX3_unwrap 66 = .ok (.ireturn, 1) := by decide +kernel
theorem dX3_unwrap_67 : decode cX3_unwrap 67 = .ok (.aload_n 0, 1) := by decide +kernel
theorem dX3_unwrap_68 : decode cX3_unwrap 68 = .ok (.bipush 69, 2) := by decide +kernel
theorem dX3_unwrap_70 : decode cX3_unwrap 70 = .ok (.iload 4, 2) := by decide +kernel
theorem dX3_unwrap_72 : decode cX3_unwrap 72 = .ok (.invokevirtual 69, 3) := by decide +kernel
theorem dX3_unwrap_75 : decode cX3_unwrap 75 = .ok (.aload_n 0, 1) := by decide +kernel
theorem dX3_unwrap_76 : decode cX3_unwrap 76 = .ok (.aload_n 3, 1) := by decide +kernel
theorem dX3_unwrap_77 : decode cX3_unwrap 77 = .ok (.bipush 69, 2) := by decide +kernel
theorem dX3_unwrap_79 : decode cX3_unwrap 79 = .ok (.iload_n 2, 1) := by decide +kernel
theorem dX3_unwrap_80 : decode cX3_unwrap 80 = .ok (.iadd, 1) := by decide +kernel
theorem dX3_unwrap_81 : decode cX3_unwrap 81 = .ok (.invokevirtual 73, 3) := by decide +kernel
theorem dX3_unwrap_84 : decode cX3_unwrap 84 = .ok (.aload_n 3, 1) := by decide +kernel
theorem dX3_unwrap_85 : decode cX3_unwrap 85 = .ok (.bipush 68, 2) := by decide +kernel
theorem dX3_unwrap_87 : decode cX3_unwrap 87 = .ok (.baload, 1) := by decide +kernel
theorem dX3_unwrap_88 : decode cX3_unwrap 88 = .ok (.sipush 255, 3) := by decide +kernel
theorem dX3_unwrap_91 : decode cX3_unwrap 91 = .ok (.iand, 1) := by decide +kernel
theorem dX3_unwrap_92 : decode cX3_unwrap 92 = .ok (.iload_n 2, 1) := by decide +kernel
theorem dX3_unwrap_93 : decode cX3_unwrap 93 = .ok (.if_icmp .ne 7, 3) := by decide +kernel
theorem dX3_unwrap_96 : decode cX3_unwrap 96 = .ok (.iconst 1, 1) := by decide +kernel
theorem dX3_unwrap_97 : decode cX3_unwrap 97 = .ok (.goto 4, 3) := by decide +kernel
theorem dX3_unwrap_100 : decode cX3_unwrap 100 = .ok (.iconst 0, 1) := by decide +kernel
theorem dX3_unwrap_101 : decode cX3_unwrap 101 = .ok (.ireturn, 1) := by decide +kernel
theorem dX3_derive_0 : decode cX3_derive 0 = .ok (.aload_n 0, 1) := by decide +kernel
theorem dX3_derive_1 : decode cX3_derive 1 = .ok (.getfield 21, 3) := by decide +kernel
theorem dX3_derive_4 : decode cX3_derive 4 = .ok (.aload_n 0, 1) := by decide +kernel
theorem dX3_derive_5 : decode cX3_derive 5 = .ok (.getfield 9, 3) := by decide +kernel
theorem dX3_derive_8 : decode cX3_derive 8 = .ok (.invokevirtual 48, 3) := by decide +kernel
theorem dX3_derive_11 : decode cX3_derive 11 = .ok (.astore_n 3, 1) := by decide +kernel
theorem dX3_derive_12 : decode cX3_derive 12 = .ok (.aload_n 3, 1) := by decide +kernel
theorem dX3_derive_13 : decode cX3_derive 13 = .ok (.iload_n 1, 1) := by decide +kernel
theorem dX3_derive_14 : decode cX3_derive 14 = .ok (.invokevirtual 31, 3) := by decide +kernel
theorem dX3_derive_17 : decode cX3_derive 17 = .ok (.aload_n 3, 1) := by decide +kernel
theorem dX3_derive_18 : decode cX3_derive 18 = .ok (.iload_n 2, 1) := by decide +kernel
theorem dX3_derive_19 : decode cX3_derive 19 = .ok (.invokevirtual 37, 3) := by decide +kernel
theorem dX3_derive_22 : decode cX3_derive 22 = .ok (.aload_n 0, 1) := by decide +kernel
theorem dX3_derive_23 : decode cX3_derive 23 = .ok (.getfield 21, 3) := by decide +kernel
theorem dX3_derive_26 : decode cX3_derive 26 = .ok (.aload_n 0, 1) := by decide +kernel
theorem dX3_derive_27 : decode cX3_derive 27 = .ok (.getfield 9, 3) := by decide +kernel
theorem dX3_derive_30 : decode cX3_derive 30 = .ok (.aload_n 0, 1) := by decide +kernel
theorem dX3_derive_31 : decode cX3_derive 31 = .ok (.getfield 15, 3) := by decide +kernel
theorem dX3_derive_34 : decode cX3_derive 34 = .ok (.invokevirtual 52, 3) := by decide +kernel
theorem dX3_derive_37 : decode cX3_derive 37 = .ok (.return_, 1) := by decide +kernel
theorem dX3_findMark_0 : decode cX3_findMark 0 = .ok (.aload_n 0, 1) := by decide +kernel
theorem dX3_findMark_1 : decode cX3_findMark 1 = .ok (.getfield 21, 3) := by decide +kernel
theorem dX3_findMark_4 : decode cX3_findMark 4 = .ok (.aload_n 0, 1) := by decide +kernel
theorem dX3_findMark_5 : decode cX3_findMark 5 = .ok (.getfield 15, 3) := by decide +kernel
theorem dX3_findMark_8 : decode cX3_findMark 8 = .ok (.invokevirtual 48, 3) := by decide +kernel
theorem dX3_findMark_11 : decode cX3_findMark 11 = .ok (.aload_n 1, 1) := by decide +kernel
theorem dX3_findMark_12 : decode cX3_findMark 12 = .ok (.iload_n 2, 1) := by decide +kernel
theorem dX3_findMark_13 : decode cX3_findMark 13 = .ok (.invokevirtual 44, 3) := by decide +kernel
theorem dX3_findMark_16 : decode cX3_findMark 16 = .ok (.aload_n 0, 1) := by decide +kernel
theorem dX3_findMark_17 : decode cX3_findMark 17 = .ok (.getfield 21, 3) := by decide +kernel
theorem dX3_findMark_20 : decode cX3_findMark 20 = .ok (.aload_n 0, 1) := by decide +kernel
theorem dX3_findMark_21 : decode cX3_findMark 21 = .ok (.getfield 15, 3) := by decide +kernel
theorem dX3_findMark_24 : decode cX3_findMark 24 = .ok (.aload_n 0, 1) := by decide +kernel
theorem dX3_findMark_25 : decode cX3_findMark 25 = .ok (.getfield 18, 3) := by decide +kernel
theorem dX3_findMark_28 : decode cX3_findMark 28 = .ok (.invokevirtual 52, 3) := by decide +kernel
theorem dX3_findMark_31 : decode cX3_findMark 31 = .ok (.return_, 1) := by decide +kernel
theorem dX3_cover_0 : decode cX3_cover 0 = .ok (.bipush 36, 2) := by decide +kernel
theorem dX3_cover_2 : decode cX3_cover 2 = .ok (.istore_n 3, 1) := by decide +kernel
theorem dX3_cover_3 : decode cX3_cover 3 = .ok (.iload_n 3, 1) := by decide +kernel
theorem dX3_cover_4 : decode cX3_cover 4 = .ok (.iload_n 2, 1) := by decide +kernel
theorem dX3_cover_5 : decode cX3_cover 5 = .ok (.if_icmp .ge 81, 3) := by decide +kernel
theorem dX3_cover_8 : decode cX3_cover 8 = .ok (.iload_n 3, 1) := by decide +kernel
theorem dX3_cover_9 : decode cX3_cover 9 = .ok (.bipush 36, 2) := by decide +kernel
theorem dX3_cover_11 : decode cX3_cover 11 = .ok (.isub, 1) := by decide +kernel
theorem dX3_cover_12 : decode cX3_cover 12 = .ok (.istore 4, 2) := by decide +kernel
theorem dX3_cover_14 : decode cX3_cover 14 = .ok (.iload 4, 2) := by decide +kernel
theorem dX3_cover_16 : decode cX3_cover 16 = .ok (.bipush 32, 2) := by decide +kernel
theorem dX3_cover_18 : decode cX3_cover 18 = .ok (.irem, 1) := by decide +kernel
theorem dX3_cover_19 : decode cX3_cover 19 = .ok (.ifCond .ne 44, 3) := by decide +kernel
theorem dX3_cover_22 : decode cX3_cover 22 = .ok (.aload_n 0, 1) := by decide +kernel
theorem dX3_cover_23 : decode cX3_cover 23 = .ok (.getfield 21, 3) := by decide +kernel
theorem dX3_cover_26 : decode cX3_cover 26 = .ok (.invokevirtual 25, 3) := by decide +kernel
theorem dX3_cover_29 : decode cX3_cover 29 = .ok (.astore 5, 2) := by decide +kernel
theorem dX3_cover_31 : decode cX3_cover 31 = .ok (.aload 5, 2) := by decide +kernel
theorem dX3_cover_33 : decode cX3_cover 33 = .ok (.aload_n 0, 1) := by decide +kernel
theorem dX3_cover_34 : decode cX3_cover 34 = .ok (.getfield 15, 3) := by decide +kernel
theorem dX3_cover_37 : decode cX3_cover 37 = .ok (.bipush 32, 2) := by decide +kernel
theorem dX3_cover_39 : decode cX3_cover 39 = .ok (.invokevirtual 44, 3) := by decide +kernel
theorem dX3_cover_42 : decode cX3_cover 42 = .ok (.aload 5, 2) := by decide +kernel
theorem dX3_cover_44 : decode cX3_cover 44 = .ok (.iload 4, 2) := by decide +kernel
theorem dX3_cover_46 : decode cX3_cover 46 = .ok (.bipush 32, 2) := by decide +kernel
theorem dX3_cover_48 : decode cX3_cover 48 = .ok (.idiv, 1) := by decide +kernel
theorem dX3_cover_49 : decode cX3_cover 49 = .ok (.invokevirtual 31, 3) := by decide +kernel
theorem dX3_cover_52 : decode cX3_cover 52 = .ok (.aload_n 0, 1) := by decide +kernel
theorem dX3_cover_53 : decode cX3_cover 53 = .ok (.getfield 21, 3) := by decide +kernel
theorem dX3_cover_56 : decode cX3_cover 56 = .ok (.aload_n 0, 1) := by decide +kernel
theorem dX3_cover_57 : decode cX3_cover 57 = .ok (.getfield 18, 3) := by decide +kernel
theorem dX3_cover_60 : decode cX3_cover 60 = .ok (.invokevirtual 40, 3) := by decide +kernel
theorem dX3_cover_63 : decode cX3_cover 63 = .ok (.aload_n 1, 1) := by decide +kernel
theorem dX3_cover_64 : decode cX3_cover 64 = .ok (.iload_n 3, 1) := by decide +kernel
theorem dX3_cover_65 : decode cX3_cover 65 = .ok (.dup2, 1) := by decide +kernel
theorem dX3_cover_66 : decode cX3_cover 66 = .ok (.baload, 1) := by decide +kernel
theorem dX3_cover_67 : decode cX3_cover 67 = .ok (.aload_n 0, 1) := by decide +kernel
theorem dX3_cover_68 : decode cX3_cover 68 = .ok (.getfield 18, 3) := by decide +kernel
theorem dX3_cover_71 : decode cX3_cover 71 = .ok (.iload 4, 2) := by decide +kernel
theorem dX3_cover_73 : decode cX3_cover 73 = .ok (.bipush 32, 2) := by decide +kernel
theorem dX3_cover_75 : decode cX3_cover 75 = .ok (.irem, 1) := by decide +kernel
theorem dX3_cover_76 : decode cX3_cover 76 = .ok (.baload, 1) := by decide +kernel
theorem dX3_cover_77 : decode cX3_cover 77 = .ok (.ixor, 1) := by decide +kernel
theorem dX3_cover_78 : decode cX3_cover 78 = .ok (.i2b, 1) := by decide +kernel
theorem dX3_cover_79 : decode cX3_cover 79 = .ok (.bastore, 1) := by decide +kernel
theorem dX3_cover_80 : decode cX3_cover 80 = .ok (.iinc 3 1, 3) := by decide +kernel
theorem dX3_cover_83 : decode cX3_cover 83 = .ok (.goto (-80), 3) := by decide +kernel
theorem dX3_cover_86 : decode cX3_cover 86 = .ok (.return_, 1) := by decide +kernel
theorem dX4_init_0 : decode cX4_init 0 = .ok (.aload_n 0, 1) := by decide +kernel
theorem dX4_init_1 : decode cX4_init 1 = .ok (.invokespecial 3, 3) := by decide +kernel
theorem dX4_init_4 : decode cX4_init 4 = .ok (.aload_n 0, 1) := by decide +kernel
theorem dX4_init_5 : decode cX4_init 5 = .ok (.bipush 32, 2) := by decide +kernel
theorem dX4_init_7 : decode cX4_init 7 = .ok (.newarray .byte, 2) := by decide +kernel
theorem dX4_init_9 : decode cX4_init 9 = .ok (.putfield 9, 3) := by decide +kernel
theorem dX4_init_12 : decode cX4_init 12 = .ok (.return_, 1) := by decide +kernel
theorem dX4_begin_0 : decode cX4_begin 0 = .ok (.aload_n 0, 1) := by decide +kernel
theorem dX4_begin_1 : decode cX4_begin 1 = .ok (.getfield 9, 3) := by decide +kernel
theorem dX4_begin_4 : decode cX4_begin 4 = .ok (.iconst 0, 1) := by decide +kernel
theorem dX4_begin_5 : decode cX4_begin 5 = .ok (.invokestatic 15, 3) := by decide +kernel
theorem dX4_begin_8 : decode cX4_begin 8 = .ok (.aload_n 0, 1) := by decide +kernel
theorem dX4_begin_9 : decode cX4_begin 9 = .ok (.iconst 1, 1) := by decide +kernel
theorem dX4_begin_10 : decode cX4_begin 10 = .ok (.putfield 21, 3) := by decide +kernel
theorem dX4_begin_13 : decode cX4_begin 13 = .ok (.aload_n 0, 1) := by decide +kernel
theorem dX4_begin_14 : decode cX4_begin 14 = .ok (.iconst 0, 1) := by decide +kernel
theorem dX4_begin_15 : decode cX4_begin 15 = .ok (.putfield 25, 3) := by decide +kernel
theorem dX4_begin_18 : decode cX4_begin 18 = .ok (.aload_n 0, 1) := by decide +kernel
theorem dX4_begin_19 : decode cX4_begin 19 = .ok (.iconst 0, 1) := by decide +kernel
theorem dX4_begin_20 : decode cX4_begin 20 = .ok (.putfield 28, 3) := by decide +kernel
theorem dX4_begin_23 : decode cX4_begin 23 = .ok (.aload_n 0, 1) := by decide +kernel
theorem dX4_begin_24 : decode cX4_begin 24 = .ok (.iconst 0, 1) := by decide +kernel
theorem dX4_begin_25 : decode cX4_begin 25 = .ok (.putfield 32, 3) := by decide +kernel
theorem dX4_begin_28 : decode cX4_begin 28 = .ok (.aload_n 0, 1) := by decide +kernel
theorem dX4_begin_29 : decode cX4_begin 29 = .ok (.iconst 0, 1) := by decide +kernel
theorem dX4_begin_30 : decode cX4_begin 30 = .ok (.putfield 35, 3) := by decide +kernel
theorem dX4_begin_33 : decode cX4_begin 33 = .ok (.return_, 1) := by decide +kernel
theorem dX4_startStep_0 : decode cX4_startStep 0 = .ok (.aload_n 1, 1) := by decide +kernel
theorem dX4_startStep_1 : decode cX4_startStep 1 = .ok (.invokevirtual 38, 3) := by decide +kernel
theorem dX4_startStep_4 : decode cX4_startStep 4 = .ok (.astore_n 3, 1) := by decide +kernel
theorem dX4_startStep_5 : decode cX4_startStep 5 = .ok (.aload_n 3, 1) := by decide +kernel
theorem dX4_startStep_6 : decode cX4_startStep 6 = .ok (.aload_n 0, 1) := by decide +kernel
theorem dX4_startStep_7 : decode cX4_startStep 7 = .ok (.getfield 9, 3) := by decide +kernel
theorem dX4_startStep_10 : decode cX4_startStep 10 = .ok (.bipush 32, 2) := by decide +kernel
theorem dX4_startStep_12 : decode cX4_startStep 12 = .ok (.invokevirtual 44, 3) := by decide +kernel
theorem dX4_startStep_15 : decode cX4_startStep 15 = .ok (.aload_n 3, 1) := by decide +kernel
theorem dX4_startStep_16 : decode cX4_startStep 16 = .ok (.iload_n 2, 1) := by decide +kernel
theorem dX4_startStep_17 : decode cX4_startStep 17 = .ok (.invokevirtual 50, 3) := by decide +kernel
theorem dX4_startStep_20 : decode cX4_startStep 20 = .ok (.aload_n 3, 1) := by decide +kernel
theorem dX4_startStep_21 : decode cX4_startStep 21 = .ok (.areturn, 1) := by decide +kernel
end
section
theorem dX4_bindRegisters_0 : decode cX4_bindRegisters 0 = .ok (.aload_n 0, 1) := by decide +kernel
theorem dX4_bindRegisters_1 : decode cX4_bindRegisters 1 = .ok (.getfield 32, 3) := by decide +kernel
theorem dX4_bindRegisters_4 : decode cX4_bindRegisters 4 = .ok (.ifCond .ne 13, 3) := by decide +kernel
theorem dX4_bindRegisters_7 : decode cX4_bindRegisters 7 = .ok (.aload_n 0, 1) := by decide +kernel
theorem dX4_bindRegisters_8 : decode cX4_bindRegisters 8 = .ok (.iconst 1, 1) := by decide +kernel
theorem dX4_bindRegisters_9 : decode cX4_bindRegisters 9 = .ok (.putfield 32, 3) := by decide +kernel
theorem dX4_bindRegisters_12 : decode cX4_bindRegisters 12 = .ok (.aload_n 0, 1) := by decide +kernel
theorem dX4_bindRegisters_13 : decode cX4_bindRegisters 13 = .ok (.iload_n 1, 1) := by decide +kernel
theorem dX4_bindRegisters_14 : decode cX4_bindRegisters 14 = .ok (.putfield 54, 3) := by decide +kernel
theorem dX4_bindRegisters_17 : decode cX4_bindRegisters 17 = .ok (.return_, 1) := by decide +kernel
theorem dX4_bindTime_0 : decode cX4_bindTime 0 = .ok (.aload_n 0, 1) := by decide +kernel
theorem dX4_bindTime_1 : decode cX4_bindTime 1 = .ok (.aload_n 0, 1) := by decide +kernel
theorem dX4_bindTime_2 : decode cX4_bindTime 2 = .ok (.getfield 35, 3) := by decide +kernel
theorem dX4_bindTime_5 : decode cX4_bindTime 5 = .ok (.ifCond .eq 14, 3) := by decide +kernel
theorem dX4_bindTime_8 : decode cX4_bindTime 8 = .ok (.aload_n 0, 1) := by decide +kernel
theorem dX4_bindTime_9 : decode cX4_bindTime 9 = .ok (.getfield 57, 3) := by decide +kernel
theorem dX4_bindTime_12 : decode cX4_bindTime 12 = .ok (.iload_n 1, 1) := by decide +kernel
theorem dX4_bindTime_13 : decode cX4_bindTime 13 = .ok (.invokestatic 60, 3) := by decide +kernel
theorem dX4_bindTime_16 : decode cX4_bindTime 16 = .ok (.goto 4, 3) := by decide +kernel
theorem dX4_bindTime_19 : decode cX4_bindTime 19 = .ok (.iload_n 1, 1) := by decide +kernel
theorem dX4_bindTime_20 : decode cX4_bindTime 20 = .ok (.putfield 57, 3) := by decide +kernel
theorem dX4_bindTime_23 : decode cX4_bindTime 23 = .ok (.aload_n 0, 1) := by decide +kernel
theorem dX4_bindTime_24 : decode cX4_bindTime 24 = .ok (.iconst 1, 1) := by decide +kernel
theorem dX4_bindTime_25 : decode cX4_bindTime 25 = .ok (.putfield 35, 3) := by decide +kernel
theorem dX4_bindTime_28 : decode cX4_bindTime 28 = .ok (.return_, 1) := by decide +kernel
theorem dX4_holds_0 : decode cX4_holds 0 = .ok (.aload_n 0, 1) := by decide +kernel
theorem dX4_holds_1 : decode cX4_holds 1 = .ok (.getfield 32, 3) := by decide +kernel
theorem dX4_holds_4 : decode cX4_holds 4 = .ok (.ifCond .eq 11, 3) := by decide +kernel
theorem dX4_holds_7 : decode cX4_holds 7 = .ok (.iload_n 1, 1) := by decide +kernel
theorem dX4_holds_8 : decode cX4_holds 8 = .ok (.aload_n 0, 1) := by decide +kernel
theorem dX4_holds_9 : decode cX4_holds 9 = .ok (.getfield 54, 3) := by decide +kernel
theorem dX4_holds_12 : decode cX4_holds 12 = .ok (.if_icmp .ne 37, 3) := by decide +kernel
theorem dX4_holds_15 : decode cX4_holds 15 = .ok (.aload_n 0, 1) := by decide +kernel
theorem dX4_holds_16 : decode cX4_holds 16 = .ok (.getfield 28, 3) := by decide +kernel
theorem dX4_holds_19 : decode cX4_holds 19 = .ok (.ifCond .eq 11, 3) := by decide +kernel
theorem dX4_holds_22 : decode cX4_holds 22 = .ok (.aload_n 0, 1) := by decide +kernel
theorem dX4_holds_23 : decode cX4_holds 23 = .ok (.getfield 28, 3) := by decide +kernel
theorem dX4_holds_26 : decode cX4_holds 26 = .ok (.iload_n 2, 1) := by decide +kernel
theorem dX4_holds_27 : decode cX4_holds 27 = .ok (.if_icmp .ne 22, 3) := by decide +kernel
theorem dX4_holds_30 : decode cX4_holds 30 = .ok (.aload_n 0, 1) := by decide +kernel
theorem dX4_holds_31 : decode cX4_holds 31 = .ok (.getfield 35, 3) := by decide +kernel
theorem dX4_holds_34 : decode cX4_holds 34 = .ok (.ifCond .eq 11, 3) := by decide +kernel
theorem dX4_holds_37 : decode cX4_holds 37 = .ok (.iload_n 3, 1) := by decide +kernel
theorem dX4_holds_38 : decode cX4_holds 38 = .ok (.aload_n 0, 1) := by decide +kernel
theorem dX4_holds_39 : decode cX4_holds 39 = .ok (.getfield 57, 3) := by decide +kernel
theorem dX4_holds_42 : decode cX4_holds 42 = .ok (.if_icmp .gt 7, 3) := by decide +kernel
theorem dX4_holds_45 : decode cX4_holds 45 = .ok (.iconst 1, 1) := by decide +kernel
theorem dX4_holds_46 : decode cX4_holds 46 = .ok (.goto 4, 3) := by decide +kernel
theorem dX4_holds_49 : decode cX4_holds 49 = .ok (.iconst 0, 1) := by decide +kernel
theorem dX4_holds_50 : decode cX4_holds 50 = .ok (.ireturn, 1) := by decide +kernel
theorem dX5_init_0 : decode cX5_init 0 = .ok (.aload_n 0, 1) := by decide +kernel
theorem dX5_init_1 : decode cX5_init 1 = .ok (.invokespecial 3, 3) := by decide +kernel
theorem dX5_init_4 : decode cX5_init 4 = .ok (.aload_n 0, 1) := by decide +kernel
theorem dX5_init_5 : decode cX5_init 5 = .ok (.bipush 32, 2) := by decide +kernel
theorem dX5_init_7 : decode cX5_init 7 = .ok (.newarray .byte, 2) := by decide +kernel
theorem dX5_init_9 : decode cX5_init 9 = .ok (.putfield 9, 3) := by decide +kernel
theorem dX5_init_12 : decode cX5_init 12 = .ok (.aload_n 0, 1) := by decide +kernel
theorem dX5_init_13 : decode cX5_init 13 = .ok (.bipush 32, 2) := by decide +kernel
theorem dX5_init_15 : decode cX5_init 15 = .ok (.newarray .byte, 2) := by decide +kernel
theorem dX5_init_17 : decode cX5_init 17 = .ok (.putfield 15, 3) := by decide +kernel
theorem dX5_init_20 : decode cX5_init 20 = .ok (.aload_n 0, 1) := by decide +kernel
theorem dX5_init_21 : decode cX5_init 21 = .ok (.new 18, 3) := by decide +kernel
theorem dX5_init_24 : decode cX5_init 24 = .ok (.dup, 1) := by decide +kernel
theorem dX5_init_25 : decode cX5_init 25 = .ok (.iload_n 1, 1) := by decide +kernel
theorem dX5_init_26 : decode cX5_init 26 = .ok (.invokespecial 20, 3) := by decide +kernel
theorem dX5_init_29 : decode cX5_init 29 = .ok (.putfield 23, 3) := by decide +kernel
theorem dX5_init_32 : decode cX5_init 32 = .ok (.return_, 1) := by decide +kernel
theorem dX6_init_0 : decode cX6_init 0 = .ok (.aload_n 0, 1) := by decide +kernel
theorem dX6_init_1 : decode cX6_init 1 = .ok (.invokespecial 3, 3) := by decide +kernel
theorem dX6_init_4 : decode cX6_init 4 = .ok (.aload_n 0, 1) := by decide +kernel
theorem dX6_init_5 : decode cX6_init 5 = .ok (.new 9, 3) := by decide +kernel
theorem dX6_init_8 : decode cX6_init 8 = .ok (.dup, 1) := by decide +kernel
theorem dX6_init_9 : decode cX6_init 9 = .ok (.bipush 64, 2) := by decide +kernel
theorem dX6_init_11 : decode cX6_init 11 = .ok (.invokespecial 11, 3) := by decide +kernel
theorem dX6_init_14 : decode cX6_init 14 = .ok (.putfield 14, 3) := by decide +kernel
theorem dX6_init_17 : decode cX6_init 17 = .ok (.return_, 1) := by decide +kernel
theorem dX6_mayBe_0 : decode cX6_mayBe 0 = .ok (.iload_n 0, 1) := by decide +kernel
theorem dX6_mayBe_1 : decode cX6_mayBe 1 = .ok (.iconst 1, 1) := by decide +kernel
theorem dX6_mayBe_2 : decode cX6_mayBe 2 = .ok (.if_icmp .eq 23, 3) := by decide +kernel
theorem dX6_mayBe_5 : decode cX6_mayBe 5 = .ok (.iload_n 0, 1) := by decide +kernel
theorem dX6_mayBe_6 : decode cX6_mayBe 6 = .ok (.iconst 2, 1) := by decide +kernel
theorem dX6_mayBe_7 : decode cX6_mayBe 7 = .ok (.if_icmp .eq 18, 3) := by decide +kernel
theorem dX6_mayBe_10 : decode cX6_mayBe 10 = .ok (.iload_n 0, 1) := by decide +kernel
theorem dX6_mayBe_11 : decode cX6_mayBe 11 = .ok (.ifCond .ne 18, 3) := by decide +kernel
theorem dX6_mayBe_14 : decode cX6_mayBe 14 = .ok (.iload_n 1, 1) := by decide +kernel
theorem dX6_mayBe_15 : decode cX6_mayBe 15 = .ok (.iconst 1, 1) := by decide +kernel
theorem dX6_mayBe_16 : decode cX6_mayBe 16 = .ok (.if_icmp .lt 13, 3) := by decide +kernel
theorem dX6_mayBe_19 : decode cX6_mayBe 19 = .ok (.iload_n 1, 1) := by decide +kernel
theorem dX6_mayBe_20 : decode cX6_mayBe 20 = .ok (.bipush 64, 2) := by decide +kernel
theorem dX6_mayBe_22 : decode cX6_mayBe 22 = .ok (.if_icmp .gt 7, 3) := by decide +kernel
theorem dX6_mayBe_25 : decode cX6_mayBe 25 = .ok (.iconst 1, 1) := by decide +kernel
theorem dX6_mayBe_26 : decode cX6_mayBe 26 = .ok (.goto 4, 3) := by decide +kernel
theorem dX6_mayBe_29 : decode cX6_mayBe 29 = .ok (.iconst 0, 1) := by decide +kernel
theorem dX6_mayBe_30 : decode cX6_mayBe 30 = .ok (.ireturn, 1) := by decide +kernel
theorem dX6_begin_0 : decode cX6_begin 0 = .ok (.aload_n 0, 1) := by decide +kernel
theorem dX6_begin_1 : decode cX6_begin 1 = .ok (.getfield 14, 3) := by decide +kernel
theorem dX6_begin_4 : decode cX6_begin 4 = .ok (.iconst 1, 1) := by decide +kernel
theorem dX6_begin_5 : decode cX6_begin 5 = .ok (.putfield 20, 3) := by decide +kernel
theorem dX6_begin_8 : decode cX6_begin 8 = .ok (.aload_n 0, 1) := by decide +kernel
theorem dX6_begin_9 : decode cX6_begin 9 = .ok (.getfield 14, 3) := by decide +kernel
theorem dX6_begin_12 : decode cX6_begin 12 = .ok (.getfield 24, 3) := by decide +kernel
theorem dX6_begin_15 : decode cX6_begin 15 = .ok (.iload_n 1, 1) := by decide +kernel
theorem dX6_begin_16 : decode cX6_begin 16 = .ok (.ifCond .ne 7, 3) := by decide +kernel
theorem dX6_begin_19 : decode cX6_begin 19 = .ok (.iload_n 2, 1) := by decide +kernel
theorem dX6_begin_20 : decode cX6_begin 20 = .ok (.goto 15, 3) := by decide +kernel
theorem dX6_begin_23 : decode cX6_begin 23 = .ok (.iload_n 1, 1) := by decide +kernel
theorem dX6_begin_24 : decode cX6_begin 24 = .ok (.iconst 1, 1) := by decide +kernel
theorem dX6_begin_25 : decode cX6_begin 25 = .ok (.if_icmp .ne 8, 3) := by decide +kernel
theorem dX6_begin_28 : decode cX6_begin 28 = .ok (.bipush 8, 2) := by decide +kernel
theorem dX6_begin_30 : decode cX6_begin 30 = .ok (.goto 5, 3) := by decide +kernel
theorem dX6_begin_33 : decode cX6_begin 33 = .ok (.bipush 32, 2) := by decide +kernel
theorem dX6_begin_35 : decode cX6_begin 35 = .ok (.putfield 28, 3) := by decide +kernel
theorem dX6_begin_38 : decode cX6_begin 38 = .ok (.aload_n 0, 1) := by decide +kernel
theorem dX6_begin_39 : decode cX6_begin 39 = .ok (.getfield 14, 3) := by decide +kernel
theorem dX6_begin_42 : decode cX6_begin 42 = .ok (.getfield 24, 3) := by decide +kernel
theorem dX6_begin_45 : decode cX6_begin 45 = .ok (.getfield 34, 3) := by decide +kernel
theorem dX6_begin_48 : decode cX6_begin 48 = .ok (.iconst 0, 1) := by decide +kernel
theorem dX6_begin_49 : decode cX6_begin 49 = .ok (.invokestatic 38, 3) := by decide +kernel
theorem dX6_begin_52 : decode cX6_begin 52 = .ok (.aload_n 0, 1) := by decide +kernel
theorem dX6_begin_53 : decode cX6_begin 53 = .ok (.iload_n 1, 1) := by decide +kernel
theorem dX6_begin_54 : decode cX6_begin 54 = .ok (.putfield 44, 3) := by decide +kernel
theorem dX6_begin_57 : decode cX6_begin 57 = .ok (.aload_n 0, 1) := by decide +kernel
theorem dX6_begin_58 : decode cX6_begin 58 = .ok (.iconst 0, 1) := by decide +kernel
theorem dX6_begin_59 : decode cX6_begin 59 = .ok (.putfield 47, 3) := by decide +kernel
theorem dX6_begin_62 : decode cX6_begin 62 = .ok (.aload_n 0, 1) := by decide +kernel
theorem dX6_begin_63 : decode cX6_begin 63 = .ok (.iconst 0, 1) := by decide +kernel
theorem dX6_begin_64 : decode cX6_begin 64 = .ok (.putfield 50, 3) := by decide +kernel
theorem dX6_begin_67 : decode cX6_begin 67 = .ok (.aload_n 0, 1) := by decide +kernel
theorem dX6_begin_68 : decode cX6_begin 68 = .ok (.lconst 0, 1) := by decide +kernel
theorem dX6_begin_69 : decode cX6_begin 69 = .ok (.putfield 53, 3) := by decide +kernel
theorem dX6_begin_72 : decode cX6_begin 72 = .ok (.return_, 1) := by decide +kernel
theorem dX6_spellNumber_0 : decode cX6_spellNumber 0 = .ok (.aload_n 0, 1) := by decide +kernel
theorem dX6_spellNumber_1 : decode cX6_spellNumber 1 = .ok (.getfield 14, 3) := by decide +kernel
theorem dX6_spellNumber_4 : decode cX6_spellNumber 4 = .ok (.getfield 24, 3) := by decide +kernel
theorem dX6_spellNumber_7 : decode cX6_spellNumber 7 = .ok (.iconst 0, 1) := by decide +kernel
theorem dX6_spellNumber_8 : decode cX6_spellNumber 8 = .ok (.putfield 28, 3) := by decide +kernel
theorem dX6_spellNumber_11 : decode cX6_spellNumber 11 = .ok (.aload_n 0, 1) := by decide +kernel
theorem dX6_spellNumber_12 : decode cX6_spellNumber 12 = .ok (.getfield 14, 3) := by decide +kernel
theorem dX6_spellNumber_15 : decode cX6_spellNumber 15 = .ok (.getfield 24, 3) := by decide +kernel
theorem dX6_spellNumber_18 : decode cX6_spellNumber 18 = .ok (.aload_n 0, 1) := by decide +kernel
theorem dX6_spellNumber_19 : decode cX6_spellNumber 19 = .ok (.getfield 53, 3) := by decide +kernel
theorem dX6_spellNumber_22 : decode cX6_spellNumber 22 = .ok (.bipush 32, 2) := by decide +kernel
theorem dX6_spellNumber_24 : decode cX6_spellNumber 24 = .ok (.lushr, 1) := by decide +kernel
theorem dX6_spellNumber_25 : decode cX6_spellNumber 25 = .ok (.l2i, 1) := by decide +kernel
theorem dX6_spellNumber_26 : decode cX6_spellNumber 26 = .ok (.invokevirtual 57, 3) := by decide +kernel
theorem dX6_spellNumber_29 : decode cX6_spellNumber 29 = .ok (.aload_n 0, 1) := by decide +kernel
theorem dX6_spellNumber_30 : decode cX6_spellNumber 30 = .ok (.getfield 14, 3) := by decide +kernel
theorem dX6_spellNumber_33 : decode cX6_spellNumber 33 = .ok (.getfield 24, 3) := by decide +kernel
theorem dX6_spellNumber_36 : decode cX6_spellNumber 36 = .ok (.aload_n 0, 1) := by decide +kernel
theorem dX6_spellNumber_37 : decode cX6_spellNumber 37 = .ok (.getfield 53, 3) := by decide +kernel
theorem dX6_spellNumber_40 : decode cX6_spellNumber 40 = .ok (.l2i, 1) := by decide +kernel
theorem dX6_spellNumber_41 : decode cX6_spellNumber 41 = .ok (.invokevirtual 57, 3) := by decide +kernel
theorem dX6_spellNumber_44 : decode cX6_spellNumber 44 = .ok (.return_, 1) := by decide +kernel
theorem dX7_init_0 : decode cX7_init 0 = .ok (.aload_n 0, 1) := by decide +kernel
theorem dX7_init_1 : decode cX7_init 1 = .ok (.invokespecial 1, 3) := by decide +kernel
theorem dX7_init_4 : decode cX7_init 4 = .ok (.aload_n 0, 1) := by decide +kernel
theorem dX7_init_5 : decode cX7_init 5 = .ok (.new 7, 3) := by decide +kernel
theorem dX7_init_8 : decode cX7_init 8 = .ok (.dup, 1) := by decide +kernel
theorem dX7_init_9 : decode cX7_init 9 = .ok (.invokespecial 9, 3) := by decide +kernel
theorem dX7_init_12 : decode cX7_init 12 = .ok (.putfield 10, 3) := by decide +kernel
theorem dX7_init_15 : decode cX7_init 15 = .ok (.aload_n 0, 1) := by decide +kernel
theorem dX7_init_16 : decode cX7_init 16 = .ok (.new 16, 3) := by decide +kernel
theorem dX7_init_19 : decode cX7_init 19 = .ok (.dup, 1) := by decide +kernel
theorem dX7_init_20 : decode cX7_init 20 = .ok (.aload_n 0, 1) := by decide +kernel
theorem dX7_init_21 : decode cX7_init 21 = .ok (.getfield 10, 3) := by decide +kernel
theorem dX7_init_24 : decode cX7_init 24 = .ok (.iload_n 1, 1) := by decide +kernel
theorem dX7_init_25 : decode cX7_init 25 = .ok (.invokespecial 18, 3) := by decide +kernel
theorem dX7_init_28 : decode cX7_init 28 = .ok (.putfield 21, 3) := by decide +kernel
theorem dX7_init_31 : decode cX7_init 31 = .ok (.aload_n 0, 1) := by decide +kernel
theorem dX7_init_32 : decode cX7_init 32 = .ok (.new 25, 3) := by decide +kernel
theorem dX7_init_35 : decode cX7_init 35 = .ok (.dup, 1) := by decide +kernel
theorem dX7_init_36 : decode cX7_init 36 = .ok (.sipush 400, 3) := by decide +kernel
theorem dX7_init_39 : decode cX7_init 39 = .ok (.invokespecial 27, 3) := by decide +kernel
theorem dX7_init_42 : decode cX7_init 42 = .ok (.putfield 30, 3) := by decide +kernel
theorem dX7_init_45 : decode cX7_init 45 = .ok (.aload_n 0, 1) := by decide +kernel
theorem dX7_init_46 : decode cX7_init 46 = .ok (.new 25, 3) := by decide +kernel
theorem dX7_init_49 : decode cX7_init 49 = .ok (.dup, 1) := by decide +kernel
theorem dX7_init_50 : decode cX7_init 50 = .ok (.sipush 229, 3) := by decide +kernel
theorem dX7_init_53 : decode cX7_init 53 = .ok (.invokespecial 27, 3) := by decide +kernel
theorem dX7_init_56 : decode cX7_init 56 = .ok (.putfield 34, 3) := by decide +kernel
theorem dX7_init_59 : decode cX7_init 59 = .ok (.aload_n 0, 1) := by decide +kernel
theorem dX7_init_60 : decode cX7_init 60 = .ok (.bipush 32, 2) := by decide +kernel
theorem dX7_init_62 : decode cX7_init 62 = .ok (.newarray .byte, 2) := by decide +kernel
theorem dX7_init_64 : decode cX7_init 64 = .ok (.putfield 37, 3) := by decide +kernel
theorem dX7_init_67 : decode cX7_init 67 = .ok (.aload_n 0, 1) := by decide +kernel
theorem dX7_init_68 : decode cX7_init 68 = .ok (.bipush 32, 2) := by decide +kernel
theorem dX7_init_70 : decode cX7_init 70 = .ok (.newarray .byte, 2) := by decide +kernel
theorem dX7_init_72 : decode cX7_init 72 = .ok (.putfield 41, 3) := by decide +kernel
theorem dX7_init_75 : decode cX7_init 75 = .ok (.aload_n 0, 1) := by decide +kernel
theorem dX7_init_76 : decode cX7_init 76 = .ok (.bipush 32, 2) := by decide +kernel
theorem dX7_init_78 : decode cX7_init 78 = .ok (.newarray .byte, 2) := by decide +kernel
theorem dX7_init_80 : decode cX7_init 80 = .ok (.putfield 44, 3) := by decide +kernel
theorem dX7_init_83 : decode cX7_init 83 = .ok (.aload_n 0, 1) := by decide +kernel
theorem dX7_init_84 : decode cX7_init 84 = .ok (.bipush 32, 2) := by decide +kernel
theorem dX7_init_86 : decode cX7_init 86 = .ok (.newarray .byte, 2) := by decide +kernel
theorem dX7_init_88 : decode cX7_init 88 = .ok (.putfield 47, 3) := by decide +kernel
theorem dX7_init_91 : decode cX7_init 91 = .ok (.aload_n 0, 1) := by decide +kernel
theorem dX7_init_92 : decode cX7_init 92 = .ok (.new 50, 3) := by decide +kernel
theorem dX7_init_95 : decode cX7_init 95 = .ok (.dup, 1) := by decide +kernel
theorem dX7_init_96 : decode cX7_init 96 = .ok (.invokespecial 52, 3) := by decide +kernel
theorem dX7_init_99 : decode cX7_init 99 = .ok (.putfield 53, 3) := by decide +kernel
theorem dX7_init_102 : decode cX7_init 102 = .ok (.aload_n 0, 1) := by decide +kernel
theorem dX7_init_103 : decode cX7_init 103 = .ok (.iconst 4, 1) := by decide +kernel
theorem dX7_init_104 : decode cX7_init 104 = .ok (.anewarray 57, 3) := by decide +kernel
theorem dX7_init_107 : decode cX7_init 107 = .ok (.putfield 59, 3) := by decide +kernel
theorem dX7_init_110 : decode cX7_init 110 = .ok (.iconst 0, 1) := by decide +kernel
theorem dX7_init_111 : decode cX7_init 111 = .ok (.istore_n 2, 1) := by decide +kernel
theorem dX7_init_112 : decode cX7_init 112 = .ok (.iload_n 2, 1) := by decide +kernel
theorem dX7_init_113 : decode cX7_init 113 = .ok (.iconst 4, 1) := by decide +kernel
theorem dX7_init_114 : decode cX7_init 114 = .ok (.if_icmp .ge 22, 3) := by decide +kernel
theorem dX7_init_117 : decode cX7_init 117 = .ok (.aload_n 0, 1) := by decide +kernel
theorem dX7_init_118 : decode cX7_init 118 = .ok (.getfield 59, 3) := by decide +kernel
theorem dX7_init_121 : decode cX7_init 121 = .ok (.iload_n 2, 1) := by decide +kernel
theorem dX7_init_122 : decode cX7_init 122 = .ok (.new 57, 3) := by decide +kernel
theorem dX7_init_125 : decode cX7_init 125 = .ok (.dup, 1) := by decide +kernel
theorem dX7_init_126 : decode cX7_init 126 = .ok (.invokespecial 63, 3) := by decide +kernel
theorem dX7_init_129 : decode cX7_init 129 = .ok (.aastore, 1) := by decide +kernel
theorem dX7_init_130 : decode cX7_init 130 = .ok (.iinc 2 1, 3) := by decide +kernel
theorem dX7_init_133 : decode cX7_init 133 = .ok (.goto (-21), 3) := by decide +kernel
theorem dX7_init_136 : decode cX7_init 136 = .ok (.aload_n 0, 1) := by decide +kernel
theorem dX7_init_137 : decode cX7_init 137 = .ok (.iconst 4, 1) := by decide +kernel
theorem dX7_init_138 : decode cX7_init 138 = .ok (.anewarray 64, 3) := by decide +kernel
theorem dX7_init_141 : decode cX7_init 141 = .ok (.putfield 66, 3) := by decide +kernel
theorem dX7_init_144 : decode cX7_init 144 = .ok (.iconst 0, 1) := by decide +kernel
theorem dX7_init_145 : decode cX7_init 145 = .ok (.istore_n 2, 1) := by decide +kernel
theorem dX7_init_146 : decode cX7_init 146 = .ok (.iload_n 2, 1) := by decide +kernel
theorem dX7_init_147 : decode cX7_init 147 = .ok (.iconst 4, 1) := by decide +kernel
theorem dX7_init_148 : decode cX7_init 148 = .ok (.if_icmp .ge 25, 3) := by decide +kernel
theorem dX7_init_151 : decode cX7_init 151 = .ok (.aload_n 0, 1) := by decide +kernel
theorem dX7_init_152 : decode cX7_init 152 = .ok (.getfield 66, 3) := by decide +kernel
theorem dX7_init_155 : decode cX7_init 155 = .ok (.iload_n 2, 1) := by decide +kernel
theorem dX7_init_156 : decode cX7_init 156 = .ok (.new 64, 3) := by decide +kernel
theorem dX7_init_159 : decode cX7_init 159 = .ok (.dup, 1) := by decide +kernel
theorem dX7_init_160 : decode cX7_init 160 = .ok (.sipush 128, 3) := by decide +kernel
theorem dX7_init_163 : decode cX7_init 163 = .ok (.invokespecial 70, 3) := by decide +kernel
theorem dX7_init_166 : decode cX7_init 166 = .ok (.aastore, 1) := by decide +kernel
theorem dX7_init_167 : decode cX7_init 167 = .ok (.iinc 2 1, 3) := by decide +kernel
theorem dX7_init_170 : decode cX7_init 170 = .ok (.goto (-24), 3) := by decide +kernel
theorem dX7_init_173 : decode cX7_init 173 = .ok (.aload_n 0, 1) := by decide +kernel
theorem dX7_init_174 : decode cX7_init 174 = .ok (.bipush 8, 2) := by decide +kernel
theorem dX7_init_176 : decode cX7_init 176 = .ok (.anewarray 71, 3) := by decide +kernel
theorem dX7_init_179 : decode cX7_init 179 = .ok (.putfield 73, 3) := by decide +kernel
theorem dX7_init_182 : decode cX7_init 182 = .ok (.iconst 0, 1) := by decide +kernel
theorem dX7_init_183 : decode cX7_init 183 = .ok (.istore_n 2, 1) := by decide +kernel
theorem dX7_init_184 : decode cX7_init 184 = .ok (.iload_n 2, 1) := by decide +kernel
theorem dX7_init_185 : decode cX7_init 185 = .ok (.bipush 8, 2) := by decide +kernel
theorem dX7_init_187 : decode cX7_init 187 = .ok (.if_icmp .ge 22, 3) := by decide +kernel
theorem dX7_init_190 : decode cX7_init 190 = .ok (.aload_n 0, 1) := by decide +kernel
theorem dX7_init_191 : decode cX7_init 191 = .ok (.getfield 73, 3) := by decide +kernel
theorem dX7_init_194 : decode cX7_init 194 = .ok (.iload_n 2, 1) := by decide +kernel
theorem dX7_init_195 : decode cX7_init 195 = .ok (.new 71, 3) := by decide +kernel
theorem dX7_init_198 : decode cX7_init 198 = .ok (.dup, 1) := by decide +kernel
theorem dX7_init_199 : decode cX7_init 199 = .ok (.invokespecial 77, 3) := by decide +kernel
theorem dX7_init_202 : decode cX7_init 202 = .ok (.aastore, 1) := by decide +kernel
theorem dX7_init_203 : decode cX7_init 203 = .ok (.iinc 2 1, 3) := by decide +kernel
theorem dX7_init_206 : decode cX7_init 206 = .ok (.goto (-22), 3) := by decide +kernel
theorem dX7_init_209 : decode cX7_init 209 = .ok (.aload_n 0, 1) := by decide +kernel
theorem dX7_init_210 : decode cX7_init 210 = .ok (.aload_n 0, 1) := by decide +kernel
theorem dX7_init_211 : decode cX7_init 211 = .ok (.getfield 37, 3) := by decide +kernel
theorem dX7_init_214 : decode cX7_init 214 = .ok (.invokevirtual 78, 3) := by decide +kernel
theorem dX7_init_217 : decode cX7_init 217 = .ok (.aload_n 0, 1) := by decide +kernel
theorem dX7_init_218 : decode cX7_init 218 = .ok (.aload_n 0, 1) := by decide +kernel
theorem dX7_init_219 : decode cX7_init 219 = .ok (.getfield 41, 3) := by decide +kernel
theorem dX7_init_222 : decode cX7_init 222 = .ok (.invokevirtual 78, 3) := by decide +kernel
theorem dX7_init_225 : decode cX7_init 225 = .ok (.return_, 1) := by decide +kernel
theorem dX7_feed_0 : decode cX7_feed 0 = .ok (.aload_n 0, 1) := by decide +kernel
theorem dX7_feed_1 : decode cX7_feed 1 = .ok (.getfield 30, 3) := by decide +kernel
theorem dX7_feed_4 : decode cX7_feed 4 = .ok (.bipush 20, 2) := by decide +kernel
theorem dX7_feed_6 : decode cX7_feed 6 = .ok (.invokevirtual 82, 3) := by decide +kernel
theorem dX7_feed_9 : decode cX7_feed 9 = .ok (.ifCond .ne 6, 3) := by decide +kernel
theorem dX7_feed_12 : decode cX7_feed 12 = .ok (.bipush (-3), 2) := by decide +kernel
theorem dX7_feed_14 : decode cX7_feed 14 = .ok (.ireturn, 1) := by decide +kernel
theorem dX7_feed_15 : decode cX7_feed 15 = .ok (.aload_n 0, 1) := by decide +kernel
theorem dX7_feed_16 : decode cX7_feed 16 = .ok (.getfield 30, 3) := by decide +kernel
theorem dX7_feed_19 : decode cX7_feed 19 = .ok (.iload_n 1, 1) := by decide +kernel
theorem dX7_feed_20 : decode cX7_feed 20 = .ok (.invokevirtual 86, 3) := by decide +kernel
theorem dX7_feed_23 : decode cX7_feed 23 = .ok (.aload_n 0, 1) := by decide +kernel
theorem dX7_feed_24 : decode cX7_feed 24 = .ok (.getfield 30, 3) := by decide +kernel
theorem dX7_feed_27 : decode cX7_feed 27 = .ok (.iload_n 2, 1) := by decide +kernel
theorem dX7_feed_28 : decode cX7_feed 28 = .ok (.invokevirtual 86, 3) := by decide +kernel
theorem dX7_feed_31 : decode cX7_feed 31 = .ok (.aload_n 0, 1) := by decide +kernel
theorem dX7_feed_32 : decode cX7_feed 32 = .ok (.getfield 30, 3) := by decide +kernel
theorem dX7_feed_35 : decode cX7_feed 35 = .ok (.iload_n 3, 1) := by decide +kernel
theorem dX7_feed_36 : decode cX7_feed 36 = .ok (.invokevirtual 86, 3) := by decide +kernel
theorem dX7_feed_39 : decode cX7_feed 39 = .ok (.aload_n 0, 1) := by decide +kernel
theorem dX7_feed_40 : decode cX7_feed 40 = .ok (.getfield 30, 3) := by decide +kernel
theorem dX7_feed_43 : decode cX7_feed 43 = .ok (.iload 4, 2) := by decide +kernel
theorem dX7_feed_45 : decode cX7_feed 45 = .ok (.invokevirtual 86, 3) := by decide +kernel
theorem dX7_feed_48 : decode cX7_feed 48 = .ok (.aload_n 0, 1) := by decide +kernel
theorem dX7_feed_49 : decode cX7_feed 49 = .ok (.getfield 30, 3) := by decide +kernel
theorem dX7_feed_52 : decode cX7_feed 52 = .ok (.iload 5, 2) := by decide +kernel
theorem dX7_feed_54 : decode cX7_feed 54 = .ok (.invokevirtual 86, 3) := by decide +kernel
theorem dX7_feed_57 : decode cX7_feed 57 = .ok (.aload_n 0, 1) := by decide +kernel
theorem dX7_feed_58 : decode cX7_feed 58 = .ok (.getfield 30, 3) := by decide +kernel
theorem dX7_feed_61 : decode cX7_feed 61 = .ok (.getfield 89, 3) := by decide +kernel
theorem dX7_feed_64 : decode cX7_feed 64 = .ok (.ireturn, 1) := by decide +kernel
theorem dX7_end_0 : decode cX7_end 0 = .ok (.iload_n 1, 1) := by decide +kernel
theorem dX7_end_1 : decode cX7_end 1 = .ok (.ifCond .lt 14, 3) := by decide +kernel
theorem dX7_end_4 : decode cX7_end 4 = .ok (.iload_n 1, 1) := by decide +kernel
theorem dX7_end_5 : decode cX7_end 5 = .ok (.aload_n 0, 1) := by decide +kernel
theorem dX7_end_6 : decode cX7_end 6 = .ok (.getfield 30, 3) := by decide +kernel
theorem dX7_end_9 : decode cX7_end 9 = .ok (.getfield 89, 3) := by decide +kernel
theorem dX7_end_12 : decode cX7_end 12 = .ok (.if_icmp .le 5, 3) := by decide +kernel
theorem dX7_end_15 : decode cX7_end 15 = .ok (.iconst (-1), 1) := by decide +kernel
theorem dX7_end_16 : decode cX7_end 16 = .ok (.ireturn, 1) := by decide +kernel
theorem dX7_end_17 : decode cX7_end 17 = .ok (.aload_n 0, 1) := by decide +kernel
theorem dX7_end_18 : decode cX7_end 18 = .ok (.getfield 30, 3) := by decide +kernel
theorem dX7_end_21 : decode cX7_end 21 = .ok (.iload_n 1, 1) := by decide +kernel
theorem dX7_end_22 : decode cX7_end 22 = .ok (.putfield 89, 3) := by decide +kernel
theorem dX7_end_25 : decode cX7_end 25 = .ok (.iload_n 1, 1) := by decide +kernel
theorem dX7_end_26 : decode cX7_end 26 = .ok (.ireturn, 1) := by decide +kernel
theorem dX7_octet_0 : decode cX7_octet 0 = .ok (.iload_n 1, 1) := by decide +kernel
theorem dX7_octet_1 : decode cX7_octet 1 = .ok (.iconst (-1), 1) := by decide +kernel
theorem dX7_octet_2 : decode cX7_octet 2 = .ok (.if_icmp .ne 11, 3) := by decide +kernel
theorem dX7_octet_5 : decode cX7_octet 5 = .ok (.aload_n 0, 1) := by decide +kernel
theorem dX7_octet_6 : decode cX7_octet 6 = .ok (.getfield 34, 3) := by decide +kernel
theorem dX7_octet_9 : decode cX7_octet 9 = .ok (.getfield 89, 3) := by decide +kernel
theorem dX7_octet_12 : decode cX7_octet 12 = .ok (.ireturn, 1) := by decide +kernel
theorem dX7_octet_13 : decode cX7_octet 13 = .ok (.iload_n 1, 1) := by decide +kernel
theorem dX7_octet_14 : decode cX7_octet 14 = .ok (.ifCond .lt 14, 3) := by decide +kernel
theorem dX7_octet_17 : decode cX7_octet 17 = .ok (.iload_n 1, 1) := by decide +kernel
theorem dX7_octet_18 : decode cX7_octet 18 = .ok (.aload_n 0, 1) := by decide +kernel
theorem dX7_octet_19 : decode cX7_octet 19 = .ok (.getfield 34, 3) := by decide +kernel
theorem dX7_octet_22 : decode cX7_octet 22 = .ok (.getfield 89, 3) := by decide +kernel
theorem dX7_octet_25 : decode cX7_octet 25 = .ok (.if_icmp .lt 6, 3) := by decide +kernel
theorem dX7_octet_28 : decode cX7_octet 28 = .ok (.bipush (-2), 2) := by decide +kernel
theorem dX7_octet_30 : decode cX7_octet 30 = .ok (.ireturn, 1) := by decide +kernel
theorem dX7_octet_31 : decode cX7_octet 31 = .ok (.aload_n 0, 1) := by decide +kernel
theorem dX7_octet_32 : decode cX7_octet 32 = .ok (.getfield 34, 3) := by decide +kernel
theorem dX7_octet_35 : decode cX7_octet 35 = .ok (.getfield 93, 3) := by decide +kernel
theorem dX7_octet_38 : decode cX7_octet 38 = .ok (.iload_n 1, 1) := by decide +kernel
theorem dX7_octet_39 : decode cX7_octet 39 = .ok (.baload, 1) := by decide +kernel
theorem dX7_octet_40 : decode cX7_octet 40 = .ok (.sipush 255, 3) := by decide +kernel
theorem dX7_octet_43 : decode cX7_octet 43 = .ok (.iand, 1) := by decide +kernel
theorem dX7_octet_44 : decode cX7_octet 44 = .ok (.ireturn, 1) := by decide +kernel
theorem dX7_back_0 : decode cX7_back 0 = .ok (.aload_n 0, 1) := by decide +kernel
theorem dX7_back_1 : decode cX7_back 1 = .ok (.getfield 30, 3) := by decide +kernel
theorem dX7_back_4 : decode cX7_back 4 = .ok (.aload_n 0, 1) := by decide +kernel
theorem dX7_back_5 : decode cX7_back 5 = .ok (.getfield 34, 3) := by decide +kernel
theorem dX7_back_8 : decode cX7_back 8 = .ok (.getfield 89, 3) := by decide +kernel
theorem dX7_back_11 : decode cX7_back 11 = .ok (.invokevirtual 82, 3) := by decide +kernel
theorem dX7_back_14 : decode cX7_back 14 = .ok (.ifCond .ne 6, 3) := by decide +kernel
theorem dX7_back_17 : decode cX7_back 17 = .ok (.bipush (-3), 2) := by decide +kernel
theorem dX7_back_19 : decode cX7_back 19 = .ok (.ireturn, 1) := by decide +kernel
theorem dX7_back_20 : decode cX7_back 20 = .ok (.aload_n 0, 1) := by decide +kernel
theorem dX7_back_21 : decode cX7_back 21 = .ok (.getfield 30, 3) := by decide +kernel
theorem dX7_back_24 : decode cX7_back 24 = .ok (.aload_n 0, 1) := by decide +kernel
theorem dX7_back_25 : decode cX7_back 25 = .ok (.getfield 34, 3) := by decide +kernel
theorem dX7_back_28 : decode cX7_back 28 = .ok (.getfield 93, 3) := by decide +kernel
theorem dX7_back_31 : decode cX7_back 31 = .ok (.aload_n 0, 1) := by decide +kernel
theorem dX7_back_32 : decode cX7_back 32 = .ok (.getfield 34, 3) := by decide +kernel
theorem dX7_back_35 : decode cX7_back 35 = .ok (.getfield 89, 3) := by decide +kernel
theorem dX7_back_38 : decode cX7_back 38 = .ok (.invokevirtual 96, 3) := by decide +kernel
theorem dX7_back_41 : decode cX7_back 41 = .ok (.aload_n 0, 1) := by decide +kernel
theorem dX7_back_42 : decode cX7_back 42 = .ok (.getfield 30, 3) := by decide +kernel
theorem dX7_back_45 : decode cX7_back 45 = .ok (.getfield 89, 3) := by decide +kernel
theorem dX7_back_48 : decode cX7_back 48 = .ok (.ireturn, 1) := by decide +kernel
theorem dX7_hash_0 : decode cX7_hash 0 = .ok (.aload_n 0, 1) := by decide +kernel
theorem dX7_hash_1 : decode cX7_hash 1 = .ok (.invokevirtual 100, 3) := by decide +kernel
theorem dX7_hash_4 : decode cX7_hash 4 = .ok (.aload_n 0, 1) := by decide +kernel
theorem dX7_hash_5 : decode cX7_hash 5 = .ok (.aload_n 0, 1) := by decide +kernel
theorem dX7_hash_6 : decode cX7_hash 6 = .ok (.getfield 47, 3) := by decide +kernel
theorem dX7_hash_9 : decode cX7_hash 9 = .ok (.bipush 32, 2) := by decide +kernel
theorem dX7_hash_11 : decode cX7_hash 11 = .ok (.invokevirtual 103, 3) := by decide +kernel
theorem dX7_hash_14 : decode cX7_hash 14 = .ok (.ireturn, 1) := by decide +kernel
theorem dX7_key_0 : decode cX7_key 0 = .ok (.aload_n 0, 1) := by decide +kernel
theorem dX7_key_1 : decode cX7_key 1 = .ok (.invokevirtual 100, 3) := by decide +kernel
theorem dX7_key_4 : decode cX7_key 4 = .ok (.aload_n 0, 1) := by decide +kernel
theorem dX7_key_5 : decode cX7_key 5 = .ok (.getfield 47, 3) := by decide +kernel
theorem dX7_key_8 : decode cX7_key 8 = .ok (.aload_n 0, 1) := by decide +kernel
theorem dX7_key_9 : decode cX7_key 9 = .ok (.getfield 37, 3) := by decide +kernel
theorem dX7_key_12 : decode cX7_key 12 = .ok (.invokestatic 107, 3) := by decide +kernel
theorem dX7_key_15 : decode cX7_key 15 = .ok (.iconst 0, 1) := by decide +kernel
theorem dX7_key_16 : decode cX7_key 16 = .ok (.ireturn, 1) := by decide +kernel
theorem dX7_extend_0 : decode cX7_extend 0 = .ok (.aload_n 0, 1) := by decide +kernel
theorem dX7_extend_1 : decode cX7_extend 1 = .ok (.invokevirtual 100, 3) := by decide +kernel
theorem dX7_extend_4 : decode cX7_extend 4 = .ok (.iload_n 1, 1) := by decide +kernel
theorem dX7_extend_5 : decode cX7_extend 5 = .ok (.ifCond .lt 9, 3) := by decide +kernel
theorem dX7_extend_8 : decode cX7_extend 8 = .ok (.iload_n 1, 1) := by decide +kernel
theorem dX7_extend_9 : decode cX7_extend 9 = .ok (.bipush 8, 2) := by decide +kernel
theorem dX7_extend_11 : decode cX7_extend 11 = .ok (.if_icmp .lt 5, 3) := by decide +kernel
theorem dX7_extend_14 : decode cX7_extend 14 = .ok (.iconst (-1), 1) := by decide +kernel
theorem dX7_extend_15 : decode cX7_extend 15 = .ok (.ireturn, 1) := by decide +kernel
theorem dX7_extend_16 : decode cX7_extend 16 = .ok (.aload_n 0, 1) := by decide +kernel
theorem dX7_extend_17 : decode cX7_extend 17 = .ok (.getfield 53, 3) := by decide +kernel
theorem dX7_extend_20 : decode cX7_extend 20 = .ok (.iload_n 1, 1) := by decide +kernel
theorem dX7_extend_21 : decode cX7_extend 21 = .ok (.aload_n 0, 1) := by decide +kernel
theorem dX7_extend_22 : decode cX7_extend 22 = .ok (.getfield 47, 3) := by decide +kernel
theorem dX7_extend_25 : decode cX7_extend 25 = .ok (.aload_n 0, 1) := by decide +kernel
theorem dX7_extend_26 : decode cX7_extend 26 = .ok (.getfield 10, 3) := by decide +kernel
theorem dX7_extend_29 : decode cX7_extend 29 = .ok (.invokevirtual 111, 3) := by decide +kernel
theorem dX7_extend_32 : decode cX7_extend 32 = .ok (.iconst 0, 1) := by decide +kernel
theorem dX7_extend_33 : decode cX7_extend 33 = .ok (.ireturn, 1) := by decide +kernel
theorem dX7_reset_0 : decode cX7_reset 0 = .ok (.iload_n 1, 1) := by decide +kernel
theorem dX7_reset_1 : decode cX7_reset 1 = .ok (.bipush 6, 2) := by decide +kernel
theorem dX7_reset_3 : decode cX7_reset 3 = .ok (.if_icmp .eq 11, 3) := by decide +kernel
theorem dX7_reset_6 : decode cX7_reset 6 = .ok (.iload_n 1, 1) := by decide +kernel
theorem dX7_reset_7 : decode cX7_reset 7 = .ok (.bipush 7, 2) := by decide +kernel
theorem dX7_reset_9 : decode cX7_reset 9 = .ok (.if_icmp .eq 5, 3) := by decide +kernel
theorem dX7_reset_12 : decode cX7_reset 12 = .ok (.iconst (-1), 1) := by decide +kernel
theorem dX7_reset_13 : decode cX7_reset 13 = .ok (.ireturn, 1) := by decide +kernel
theorem dX7_reset_14 : decode cX7_reset 14 = .ok (.aload_n 0, 1) := by decide +kernel
theorem dX7_reset_15 : decode cX7_reset 15 = .ok (.getfield 53, 3) := by decide +kernel
theorem dX7_reset_18 : decode cX7_reset 18 = .ok (.iload_n 1, 1) := by decide +kernel
theorem dX7_reset_19 : decode cX7_reset 19 = .ok (.invokevirtual 115, 3) := by decide +kernel
theorem dX7_reset_22 : decode cX7_reset 22 = .ok (.iconst 0, 1) := by decide +kernel
theorem dX7_reset_23 : decode cX7_reset 23 = .ok (.ireturn, 1) := by decide +kernel
theorem dX7_state_0 : decode cX7_state 0 = .ok (.aload_n 0, 1) := by decide +kernel
theorem dX7_state_1 : decode cX7_state 1 = .ok (.getfield 53, 3) := by decide +kernel
theorem dX7_state_4 : decode cX7_state 4 = .ok (.iload_n 1, 1) := by decide +kernel
theorem dX7_state_5 : decode cX7_state 5 = .ok (.aload_n 0, 1) := by decide +kernel
theorem dX7_state_6 : decode cX7_state 6 = .ok (.getfield 10, 3) := by decide +kernel
theorem dX7_state_9 : decode cX7_state 9 = .ok (.aload_n 0, 1) := by decide +kernel
theorem dX7_state_10 : decode cX7_state 10 = .ok (.getfield 47, 3) := by decide +kernel
theorem dX7_state_13 : decode cX7_state 13 = .ok (.invokevirtual 118, 3) := by decide +kernel
theorem dX7_state_16 : decode cX7_state 16 = .ok (.aload_n 0, 1) := by decide +kernel
theorem dX7_state_17 : decode cX7_state 17 = .ok (.aload_n 0, 1) := by decide +kernel
theorem dX7_state_18 : decode cX7_state 18 = .ok (.getfield 47, 3) := by decide +kernel
theorem dX7_state_21 : decode cX7_state 21 = .ok (.bipush 32, 2) := by decide +kernel
theorem dX7_state_23 : decode cX7_state 23 = .ok (.invokevirtual 103, 3) := by decide +kernel
theorem dX7_state_26 : decode cX7_state 26 = .ok (.ireturn, 1) := by decide +kernel
theorem dX7_quote_0 : decode cX7_quote 0 = .ok (.iconst (-1), 1) := by decide +kernel
theorem dX7_quote_1 : decode cX7_quote 1 = .ok (.istore_n 2, 1) := by decide +kernel
theorem dX7_quote_2 : decode cX7_quote 2 = .ok (.aload_n 0, 1) := by decide +kernel
theorem dX7_quote_3 : decode cX7_quote 3 = .ok (.getfield 30, 3) := by decide +kernel
theorem dX7_quote_6 : decode cX7_quote 6 = .ok (.getfield 89, 3) := by decide +kernel
theorem dX7_quote_9 : decode cX7_quote 9 = .ok (.bipush 32, 2) := by decide +kernel
theorem dX7_quote_11 : decode cX7_quote 11 = .ok (.if_icmp .gt 119, 3) := by decide +kernel
theorem dX7_quote_14 : decode cX7_quote 14 = .ok (.aload_n 0, 1) := by decide +kernel
theorem dX7_quote_15 : decode cX7_quote 15 = .ok (.getfield 53, 3) := by decide +kernel
theorem dX7_quote_18 : decode cX7_quote 18 = .ok (.iload_n 1, 1) := by decide +kernel
theorem dX7_quote_19 : decode cX7_quote 19 = .ok (.aload_n 0, 1) := by decide +kernel
theorem dX7_quote_20 : decode cX7_quote 20 = .ok (.getfield 10, 3) := by decide +kernel
theorem dX7_quote_23 : decode cX7_quote 23 = .ok (.aload_n 0, 1) := by decide +kernel
theorem dX7_quote_24 : decode cX7_quote 24 = .ok (.getfield 47, 3) := by decide +kernel
theorem dX7_quote_27 : decode cX7_quote 27 = .ok (.invokevirtual 118, 3) := by decide +kernel
theorem dX7_quote_30 : decode cX7_quote 30 = .ok (.aload_n 0, 1) := by decide +kernel
theorem dX7_quote_31 : decode cX7_quote 31 = .ok (.getfield 34, 3) := by decide +kernel
theorem dX7_quote_34 : decode cX7_quote 34 = .ok (.iconst 0, 1) := by decide +kernel
theorem dX7_quote_35 : decode cX7_quote 35 = .ok (.putfield 89, 3) := by decide +kernel
theorem dX7_quote_38 : decode cX7_quote 38 = .ok (.aload_n 0, 1) := by decide +kernel
theorem dX7_quote_39 : decode cX7_quote 39 = .ok (.getfield 34, 3) := by decide +kernel
theorem dX7_quote_42 : decode cX7_quote 42 = .ok (.bipush 81, 2) := by decide +kernel
theorem dX7_quote_44 : decode cX7_quote 44 = .ok (.invokevirtual 122, 3) := by decide +kernel
theorem dX7_quote_47 : decode cX7_quote 47 = .ok (.aload_n 0, 1) := by decide +kernel
theorem dX7_quote_48 : decode cX7_quote 48 = .ok (.getfield 34, 3) := by decide +kernel
theorem dX7_quote_51 : decode cX7_quote 51 = .ok (.iload_n 1, 1) := by decide +kernel
theorem dX7_quote_52 : decode cX7_quote 52 = .ok (.invokevirtual 122, 3) := by decide +kernel
theorem dX7_quote_55 : decode cX7_quote 55 = .ok (.aload_n 0, 1) := by decide +kernel
theorem dX7_quote_56 : decode cX7_quote 56 = .ok (.getfield 34, 3) := by decide +kernel
theorem dX7_quote_59 : decode cX7_quote 59 = .ok (.aload_n 0, 1) := by decide +kernel
theorem dX7_quote_60 : decode cX7_quote 60 = .ok (.getfield 47, 3) := by decide +kernel
theorem dX7_quote_63 : decode cX7_quote 63 = .ok (.bipush 32, 2) := by decide +kernel
theorem dX7_quote_65 : decode cX7_quote 65 = .ok (.invokevirtual 96, 3) := by decide +kernel
theorem dX7_quote_68 : decode cX7_quote 68 = .ok (.aload_n 0, 1) := by decide +kernel
theorem dX7_quote_69 : decode cX7_quote 69 = .ok (.getfield 34, 3) := by decide +kernel
theorem dX7_quote_72 : decode cX7_quote 72 = .ok (.aload_n 0, 1) := by decide +kernel
theorem dX7_quote_73 : decode cX7_quote 73 = .ok (.getfield 125, 3) := by decide +kernel
theorem dX7_quote_76 : decode cX7_quote 76 = .ok (.invokevirtual 86, 3) := by decide +kernel
theorem dX7_quote_79 : decode cX7_quote 79 = .ok (.aload_n 0, 1) := by decide +kernel
theorem dX7_quote_80 : decode cX7_quote 80 = .ok (.getfield 34, 3) := by decide +kernel
theorem dX7_quote_83 : decode cX7_quote 83 = .ok (.aload_n 0, 1) := by decide +kernel
theorem dX7_quote_84 : decode cX7_quote 84 = .ok (.getfield 128, 3) := by decide +kernel
theorem dX7_quote_87 : decode cX7_quote 87 = .ok (.invokevirtual 86, 3) := by decide +kernel
theorem dX7_quote_90 : decode cX7_quote 90 = .ok (.aload_n 0, 1) := by decide +kernel
theorem dX7_quote_91 : decode cX7_quote 91 = .ok (.getfield 34, 3) := by decide +kernel
theorem dX7_quote_94 : decode cX7_quote 94 = .ok (.aload_n 0, 1) := by decide +kernel
theorem dX7_quote_95 : decode cX7_quote 95 = .ok (.getfield 30, 3) := by decide +kernel
theorem dX7_quote_98 : decode cX7_quote 98 = .ok (.getfield 93, 3) := by decide +kernel
theorem dX7_quote_101 : decode cX7_quote 101 = .ok (.aload_n 0, 1) := by decide +kernel
theorem dX7_quote_102 : decode cX7_quote 102 = .ok (.getfield 30, 3) := by decide +kernel
theorem dX7_quote_105 : decode cX7_quote 105 = .ok (.getfield 89, 3) := by decide +kernel
theorem dX7_quote_108 : decode cX7_quote 108 = .ok (.invokevirtual 96, 3) := by decide +kernel
theorem dX7_quote_111 : decode cX7_quote 111 = .ok (.aload_n 0, 1) := by decide +kernel
theorem dX7_quote_112 : decode cX7_quote 112 = .ok (.getfield 21, 3) := by decide +kernel
theorem dX7_quote_115 : decode cX7_quote 115 = .ok (.aload_n 0, 1) := by decide +kernel
theorem dX7_quote_116 : decode cX7_quote 116 = .ok (.getfield 34, 3) := by decide +kernel
theorem dX7_quote_119 : decode cX7_quote 119 = .ok (.invokevirtual 131, 3) := by decide +kernel
theorem dX7_quote_122 : decode cX7_quote 122 = .ok (.aload_n 0, 1) := by decide +kernel
theorem dX7_quote_123 : decode cX7_quote 123 = .ok (.getfield 34, 3) := by decide +kernel
theorem dX7_quote_126 : decode cX7_quote 126 = .ok (.getfield 89, 3) := by decide +kernel
theorem dX7_quote_129 : decode cX7_quote 129 = .ok (.istore_n 2, 1) := by decide +kernel
theorem dX7_quote_130 : decode cX7_quote 130 = .ok (.aload_n 0, 1) := by decide +kernel
theorem dX7_quote_131 : decode cX7_quote 131 = .ok (.getfield 30, 3) := by decide +kernel
theorem dX7_quote_134 : decode cX7_quote 134 = .ok (.iconst 0, 1) := by decide +kernel
theorem dX7_quote_135 : decode cX7_quote 135 = .ok (.putfield 89, 3) := by decide +kernel
theorem dX7_quote_138 : decode cX7_quote 138 = .ok (.iload_n 2, 1) := by decide +kernel
theorem dX7_quote_139 : decode cX7_quote 139 = .ok (.ireturn, 1) := by decide +kernel
theorem dX7_open_0 : decode cX7_open 0 = .ok (.iload_n 1, 1) := by decide +kernel
theorem dX7_open_1 : decode cX7_open 1 = .ok (.ifCond .lt 8, 3) := by decide +kernel
theorem dX7_open_4 : decode cX7_open 4 = .ok (.iload_n 1, 1) := by decide +kernel
theorem dX7_open_5 : decode cX7_open 5 = .ok (.iconst 4, 1) := by decide +kernel
theorem dX7_open_6 : decode cX7_open 6 = .ok (.if_icmp .lt 5, 3) := by decide +kernel
theorem dX7_open_9 : decode cX7_open 9 = .ok (.iconst (-1), 1) := by decide +kernel
theorem dX7_open_10 : decode cX7_open 10 = .ok (.ireturn, 1) := by decide +kernel
theorem dX7_open_11 : decode cX7_open 11 = .ok (.aload_n 0, 1) := by decide +kernel
theorem dX7_open_12 : decode cX7_open 12 = .ok (.getfield 59, 3) := by decide +kernel
theorem dX7_open_15 : decode cX7_open 15 = .ok (.iload_n 1, 1) := by decide +kernel
theorem dX7_open_16 : decode cX7_open 16 = .ok (.aaload, 1) := by decide +kernel
theorem dX7_open_17 : decode cX7_open 17 = .ok (.invokevirtual 135, 3) := by decide +kernel
theorem dX7_open_20 : decode cX7_open 20 = .ok (.iconst 0, 1) := by decide +kernel
theorem dX7_open_21 : decode cX7_open 21 = .ok (.ireturn, 1) := by decide +kernel
theorem dX7_policyState_0 : decode cX7_policyState 0 = .ok (.aload_n 0, 1) := by decide +kernel
theorem dX7_policyState_1 : decode cX7_policyState 1 = .ok (.iload_n 1, 1) := by decide +kernel
theorem dX7_policyState_2 : decode cX7_policyState 2 = .ok (.invokevirtual 138, 3) := by decide +kernel
theorem dX7_policyState_5 : decode cX7_policyState 5 = .ok (.astore_n 3, 1) := by decide +kernel
theorem dX7_policyState_6 : decode cX7_policyState 6 = .ok (.aload_n 3, 1) := by decide +kernel
theorem dX7_policyState_7 : decode cX7_policyState 7 = .ok (.ifnonnull 5, 3) := by decide +kernel
theorem dX7_policyState_10 : decode cX7_policyState 10 = .ok (.iconst (-1), 1) := by decide +kernel
theorem dX7_policyState_11 : decode cX7_policyState 11 = .ok (.ireturn, 1) := by decide +kernel
theorem dX7_policyState_12 : decode cX7_policyState 12 = .ok (.aload_n 0, 1) := by decide +kernel
theorem dX7_policyState_13 : decode cX7_policyState 13 = .ok (.getfield 53, 3) := by decide +kernel
theorem dX7_policyState_16 : decode cX7_policyState 16 = .ok (.iload_n 2, 1) := by decide +kernel
theorem dX7_policyState_17 : decode cX7_policyState 17 = .ok (.aload_n 0, 1) := by decide +kernel
theorem dX7_policyState_18 : decode cX7_policyState 18 = .ok (.getfield 10, 3) := by decide +kernel
theorem dX7_policyState_21 : decode cX7_policyState 21 = .ok (.aload_n 0, 1) := by decide +kernel
theorem dX7_policyState_22 : decode cX7_policyState 22 = .ok (.getfield 47, 3) := by decide +kernel
theorem dX7_policyState_25 : decode cX7_policyState 25 = .ok (.invokevirtual 118, 3) := by decide +kernel
theorem dX7_policyState_28 : decode cX7_policyState 28 = .ok (.aload_n 3, 1) := by decide +kernel
theorem dX7_policyState_29 : decode cX7_policyState 29 = .ok (.aload_n 0, 1) := by decide +kernel
theorem dX7_policyState_30 : decode cX7_policyState 30 = .ok (.getfield 10, 3) := by decide +kernel
theorem dX7_policyState_33 : decode cX7_policyState 33 = .ok (.iconst 1, 1) := by decide +kernel
theorem dX7_policyState_34 : decode cX7_policyState 34 = .ok (.invokevirtual 142, 3) := by decide +kernel
theorem dX7_policyState_37 : decode cX7_policyState 37 = .ok (.astore 4, 2) := by decide +kernel
theorem dX7_policyState_39 : decode cX7_policyState 39 = .ok (.aload 4, 2) := by decide +kernel
theorem dX7_policyState_41 : decode cX7_policyState 41 = .ok (.iload_n 2, 1) := by decide +kernel
theorem dX7_policyState_42 : decode cX7_policyState 42 = .ok (.invokevirtual 122, 3) := by decide +kernel
theorem dX7_policyState_45 : decode cX7_policyState 45 = .ok (.aload 4, 2) := by decide +kernel
theorem dX7_policyState_47 : decode cX7_policyState 47 = .ok (.aload_n 0, 1) := by decide +kernel
theorem dX7_policyState_48 : decode cX7_policyState 48 = .ok (.getfield 47, 3) := by decide +kernel
theorem dX7_policyState_51 : decode cX7_policyState 51 = .ok (.bipush 32, 2) := by decide +kernel
theorem dX7_policyState_53 : decode cX7_policyState 53 = .ok (.invokevirtual 96, 3) := by decide +kernel
theorem dX7_policyState_56 : decode cX7_policyState 56 = .ok (.aload_n 0, 1) := by decide +kernel
theorem dX7_policyState_57 : decode cX7_policyState 57 = .ok (.getfield 10, 3) := by decide +kernel
theorem dX7_policyState_60 : decode cX7_policyState 60 = .ok (.aload_n 3, 1) := by decide +kernel
theorem dX7_policyState_61 : decode cX7_policyState 61 = .ok (.getfield 146, 3) := by decide +kernel
theorem dX7_policyState_64 : decode cX7_policyState 64 = .ok (.invokevirtual 149, 3) := by decide +kernel
theorem dX7_policyState_67 : decode cX7_policyState 67 = .ok (.aload_n 3, 1) := by decide +kernel
theorem dX7_policyState_68 : decode cX7_policyState 68 = .ok (.aload_n 0, 1) := by decide +kernel
theorem dX7_policyState_69 : decode cX7_policyState 69 = .ok (.getfield 53, 3) := by decide +kernel
theorem dX7_policyState_72 : decode cX7_policyState 72 = .ok (.getfield 152, 3) := by decide +kernel
theorem dX7_policyState_75 : decode cX7_policyState 75 = .ok (.invokevirtual 155, 3) := by decide +kernel
theorem dX7_policyState_78 : decode cX7_policyState 78 = .ok (.iconst 0, 1) := by decide +kernel
theorem dX7_policyState_79 : decode cX7_policyState 79 = .ok (.ireturn, 1) := by decide +kernel
theorem dX7_policyAuth_0 : decode cX7_policyAuth 0 = .ok (.aload_n 0, 1) := by decide +kernel
theorem dX7_policyAuth_1 : decode cX7_policyAuth 1 = .ok (.iload_n 1, 1) := by decide +kernel
theorem dX7_policyAuth_2 : decode cX7_policyAuth 2 = .ok (.invokevirtual 138, 3) := by decide +kernel
theorem dX7_policyAuth_5 : decode cX7_policyAuth 5 = .ok (.astore_n 2, 1) := by decide +kernel
theorem dX7_policyAuth_6 : decode cX7_policyAuth 6 = .ok (.aload_n 2, 1) := by decide +kernel
theorem dX7_policyAuth_7 : decode cX7_policyAuth 7 = .ok (.ifnonnull 5, 3) := by decide +kernel
theorem dX7_policyAuth_10 : decode cX7_policyAuth 10 = .ok (.iconst (-1), 1) := by decide +kernel
theorem dX7_policyAuth_11 : decode cX7_policyAuth 11 = .ok (.ireturn, 1) := by decide +kernel
theorem dX7_policyAuth_12 : decode cX7_policyAuth 12 = .ok (.aload_n 2, 1) := by decide +kernel
theorem dX7_policyAuth_13 : decode cX7_policyAuth 13 = .ok (.aload_n 0, 1) := by decide +kernel
theorem dX7_policyAuth_14 : decode cX7_policyAuth 14 = .ok (.getfield 10, 3) := by decide +kernel
theorem dX7_policyAuth_17 : decode cX7_policyAuth 17 = .ok (.iconst 2, 1) := by decide +kernel
theorem dX7_policyAuth_18 : decode cX7_policyAuth 18 = .ok (.invokevirtual 142, 3) := by decide +kernel
theorem dX7_policyAuth_21 : decode cX7_policyAuth 21 = .ok (.pop, 1) := by decide +kernel
theorem dX7_policyAuth_22 : decode cX7_policyAuth 22 = .ok (.aload_n 0, 1) := by decide +kernel
theorem dX7_policyAuth_23 : decode cX7_policyAuth 23 = .ok (.getfield 10, 3) := by decide +kernel
theorem dX7_policyAuth_26 : decode cX7_policyAuth 26 = .ok (.aload_n 2, 1) := by decide +kernel
theorem dX7_policyAuth_27 : decode cX7_policyAuth 27 = .ok (.getfield 146, 3) := by decide +kernel
theorem dX7_policyAuth_30 : decode cX7_policyAuth 30 = .ok (.invokevirtual 149, 3) := by decide +kernel
theorem dX7_policyAuth_33 : decode cX7_policyAuth 33 = .ok (.aload_n 2, 1) := by decide +kernel
theorem dX7_policyAuth_34 : decode cX7_policyAuth 34 = .ok (.iconst 1, 1) := by decide +kernel
theorem dX7_policyAuth_35 : decode cX7_policyAuth 35 = .ok (.putfield 158, 3) := by decide +kernel
theorem dX7_policyAuth_38 : decode cX7_policyAuth 38 = .ok (.iconst 0, 1) := by decide +kernel
theorem dX7_policyAuth_39 : decode cX7_policyAuth 39 = .ok (.ireturn, 1) := by decide +kernel
theorem dX7_policyCode_0 : decode cX7_policyCode 0 = .ok (.aload_n 0, 1) := by decide +kernel
theorem dX7_policyCode_1 : decode cX7_policyCode 1 = .ok (.iload_n 1, 1) := by decide +kernel
theorem dX7_policyCode_2 : decode cX7_policyCode 2 = .ok (.invokevirtual 138, 3) := by decide +kernel
theorem dX7_policyCode_5 : decode cX7_policyCode 5 = .ok (.astore_n 3, 1) := by decide +kernel
theorem dX7_policyCode_6 : decode cX7_policyCode 6 = .ok (.aload_n 3, 1) := by decide +kernel
theorem dX7_policyCode_7 : decode cX7_policyCode 7 = .ok (.ifnull 21, 3) := by decide +kernel
theorem dX7_policyCode_10 : decode cX7_policyCode 10 = .ok (.aload_n 3, 1) := by decide +kernel
theorem dX7_policyCode_11 : decode cX7_policyCode 11 = .ok (.getfield 162, 3) := by decide +kernel
theorem dX7_policyCode_14 : decode cX7_policyCode 14 = .ok (.ifCond .ne 14, 3) := by decide +kernel
theorem dX7_policyCode_17 : decode cX7_policyCode 17 = .ok (.iload_n 2, 1) := by decide +kernel
theorem dX7_policyCode_18 : decode cX7_policyCode 18 = .ok (.iconst 1, 1) := by decide +kernel
theorem dX7_policyCode_19 : decode cX7_policyCode 19 = .ok (.if_icmp .lt 9, 3) := by decide +kernel
theorem dX7_policyCode_22 : decode cX7_policyCode 22 = .ok (.iload_n 2, 1) := by decide +kernel
theorem dX7_policyCode_23 : decode cX7_policyCode 23 = .ok (.bipush 6, 2) := by decide +kernel
theorem dX7_policyCode_25 : decode cX7_policyCode 25 = .ok (.if_icmp .le 5, 3) := by decide +kernel
theorem dX7_policyCode_28 : decode cX7_policyCode 28 = .ok (.iconst (-1), 1) := by decide +kernel
theorem dX7_policyCode_29 : decode cX7_policyCode 29 = .ok (.ireturn, 1) := by decide +kernel
theorem dX7_policyCode_30 : decode cX7_policyCode 30 = .ok (.aload_n 3, 1) := by decide +kernel
theorem dX7_policyCode_31 : decode cX7_policyCode 31 = .ok (.aload_n 0, 1) := by decide +kernel
theorem dX7_policyCode_32 : decode cX7_policyCode 32 = .ok (.getfield 10, 3) := by decide +kernel
theorem dX7_policyCode_35 : decode cX7_policyCode 35 = .ok (.iconst 3, 1) := by decide +kernel
theorem dX7_policyCode_36 : decode cX7_policyCode 36 = .ok (.invokevirtual 142, 3) := by decide +kernel
theorem dX7_policyCode_39 : decode cX7_policyCode 39 = .ok (.iload_n 2, 1) := by decide +kernel
theorem dX7_policyCode_40 : decode cX7_policyCode 40 = .ok (.invokevirtual 122, 3) := by decide +kernel
theorem dX7_policyCode_43 : decode cX7_policyCode 43 = .ok (.aload_n 0, 1) := by decide +kernel
theorem dX7_policyCode_44 : decode cX7_policyCode 44 = .ok (.getfield 10, 3) := by decide +kernel
theorem dX7_policyCode_47 : decode cX7_policyCode 47 = .ok (.aload_n 3, 1) := by decide +kernel
theorem dX7_policyCode_48 : decode cX7_policyCode 48 = .ok (.getfield 146, 3) := by decide +kernel
theorem dX7_policyCode_51 : decode cX7_policyCode 51 = .ok (.invokevirtual 149, 3) := by decide +kernel
theorem dX7_policyCode_54 : decode cX7_policyCode 54 = .ok (.aload_n 3, 1) := by decide +kernel
theorem dX7_policyCode_55 : decode cX7_policyCode 55 = .ok (.iload_n 2, 1) := by decide +kernel
theorem dX7_policyCode_56 : decode cX7_policyCode 56 = .ok (.putfield 162, 3) := by decide +kernel
theorem dX7_policyCode_59 : decode cX7_policyCode 59 = .ok (.iconst 0, 1) := by decide +kernel
theorem dX7_policyCode_60 : decode cX7_policyCode 60 = .ok (.ireturn, 1) := by decide +kernel
theorem dX7_policyTime_0 : decode cX7_policyTime 0 = .ok (.aload_n 0, 1) := by decide +kernel
theorem dX7_policyTime_1 : decode cX7_policyTime 1 = .ok (.iload_n 1, 1) := by decide +kernel
theorem dX7_policyTime_2 : decode cX7_policyTime 2 = .ok (.invokevirtual 138, 3) := by decide +kernel
theorem dX7_policyTime_5 : decode cX7_policyTime 5 = .ok (.astore_n 3, 1) := by decide +kernel
theorem dX7_policyTime_6 : decode cX7_policyTime 6 = .ok (.aload_n 3, 1) := by decide +kernel
theorem dX7_policyTime_7 : decode cX7_policyTime 7 = .ok (.ifnonnull 5, 3) := by decide +kernel
theorem dX7_policyTime_10 : decode cX7_policyTime 10 = .ok (.iconst (-1), 1) := by decide +kernel
theorem dX7_policyTime_11 : decode cX7_policyTime 11 = .ok (.ireturn, 1) := by decide +kernel
theorem dX7_policyTime_12 : decode cX7_policyTime 12 = .ok (.aload_n 3, 1) := by decide +kernel
theorem dX7_policyTime_13 : decode cX7_policyTime 13 = .ok (.aload_n 0, 1) := by decide +kernel
theorem dX7_policyTime_14 : decode cX7_policyTime 14 = .ok (.getfield 10, 3) := by decide +kernel
theorem dX7_policyTime_17 : decode cX7_policyTime 17 = .ok (.iconst 4, 1) := by decide +kernel
theorem dX7_policyTime_18 : decode cX7_policyTime 18 = .ok (.invokevirtual 142, 3) := by decide +kernel
theorem dX7_policyTime_21 : decode cX7_policyTime 21 = .ok (.iload_n 2, 1) := by decide +kernel
theorem dX7_policyTime_22 : decode cX7_policyTime 22 = .ok (.invokevirtual 86, 3) := by decide +kernel
theorem dX7_policyTime_25 : decode cX7_policyTime 25 = .ok (.aload_n 0, 1) := by decide +kernel
theorem dX7_policyTime_26 : decode cX7_policyTime 26 = .ok (.getfield 10, 3) := by decide +kernel
theorem dX7_policyTime_29 : decode cX7_policyTime 29 = .ok (.aload_n 3, 1) := by decide +kernel
theorem dX7_policyTime_30 : decode cX7_policyTime 30 = .ok (.getfield 146, 3) := by decide +kernel
theorem dX7_policyTime_33 : decode cX7_policyTime 33 = .ok (.invokevirtual 149, 3) := by decide +kernel
theorem dX7_policyTime_36 : decode cX7_policyTime 36 = .ok (.aload_n 3, 1) := by decide +kernel
theorem dX7_policyTime_37 : decode cX7_policyTime 37 = .ok (.iload_n 2, 1) := by decide +kernel
theorem dX7_policyTime_38 : decode cX7_policyTime 38 = .ok (.invokevirtual 165, 3) := by decide +kernel
theorem dX7_policyTime_41 : decode cX7_policyTime 41 = .ok (.iconst 0, 1) := by decide +kernel
theorem dX7_policyTime_42 : decode cX7_policyTime 42 = .ok (.ireturn, 1) := by decide +kernel
theorem dX7_policyOr_0 : decode cX7_policyOr 0 = .ok (.aload_n 0, 1) := by decide +kernel
theorem dX7_policyOr_1 : decode cX7_policyOr 1 = .ok (.aload_n 0, 1) := by decide +kernel
theorem dX7_policyOr_2 : decode cX7_policyOr 2 = .ok (.iload_n 1, 1) := by decide +kernel
theorem dX7_policyOr_3 : decode cX7_policyOr 3 = .ok (.invokevirtual 138, 3) := by decide +kernel
theorem dX7_policyOr_6 : decode cX7_policyOr 6 = .ok (.invokevirtual 168, 3) := by decide +kernel
theorem dX7_policyOr_9 : decode cX7_policyOr 9 = .ok (.istore_n 2, 1) := by decide +kernel
theorem dX7_policyOr_10 : decode cX7_policyOr 10 = .ok (.aload_n 0, 1) := by decide +kernel
theorem dX7_policyOr_11 : decode cX7_policyOr 11 = .ok (.getfield 30, 3) := by decide +kernel
theorem dX7_policyOr_14 : decode cX7_policyOr 14 = .ok (.iconst 0, 1) := by decide +kernel
theorem dX7_policyOr_15 : decode cX7_policyOr 15 = .ok (.putfield 89, 3) := by decide +kernel
theorem dX7_policyOr_18 : decode cX7_policyOr 18 = .ok (.iload_n 2, 1) := by decide +kernel
theorem dX7_policyOr_19 : decode cX7_policyOr 19 = .ok (.ireturn, 1) := by decide +kernel
theorem dX7_digest_0 : decode cX7_digest 0 = .ok (.aload_n 0, 1) := by decide +kernel
theorem dX7_digest_1 : decode cX7_digest 1 = .ok (.iload_n 1, 1) := by decide +kernel
theorem dX7_digest_2 : decode cX7_digest 2 = .ok (.invokevirtual 138, 3) := by decide +kernel
theorem dX7_digest_5 : decode cX7_digest 5 = .ok (.astore_n 2, 1) := by decide +kernel
theorem dX7_digest_6 : decode cX7_digest 6 = .ok (.aload_n 2, 1) := by decide +kernel
theorem dX7_digest_7 : decode cX7_digest 7 = .ok (.ifnonnull 5, 3) := by decide +kernel
theorem dX7_digest_10 : decode cX7_digest 10 = .ok (.iconst (-1), 1) := by decide +kernel
theorem dX7_digest_11 : decode cX7_digest 11 = .ok (.ireturn, 1) := by decide +kernel
theorem dX7_digest_12 : decode cX7_digest 12 = .ok (.aload_n 0, 1) := by decide +kernel
theorem dX7_digest_13 : decode cX7_digest 13 = .ok (.aload_n 2, 1) := by decide +kernel
theorem dX7_digest_14 : decode cX7_digest 14 = .ok (.getfield 146, 3) := by decide +kernel
theorem dX7_digest_17 : decode cX7_digest 17 = .ok (.bipush 32, 2) := by decide +kernel
theorem dX7_digest_19 : decode cX7_digest 19 = .ok (.invokevirtual 103, 3) := by decide +kernel
theorem dX7_digest_22 : decode cX7_digest 22 = .ok (.ireturn, 1) := by decide +kernel
theorem dX7_seal_0 : decode cX7_seal 0 = .ok (.aload_n 0, 1) := by decide +kernel
theorem dX7_seal_1 : decode cX7_seal 1 = .ok (.iload_n 1, 1) := by decide +kernel
theorem dX7_seal_2 : decode cX7_seal 2 = .ok (.invokevirtual 172, 3) := by decide +kernel
theorem dX7_seal_5 : decode cX7_seal 5 = .ok (.astore_n 2, 1) := by decide +kernel
theorem dX7_seal_6 : decode cX7_seal 6 = .ok (.iconst (-1), 1) := by decide +kernel
theorem dX7_seal_7 : decode cX7_seal 7 = .ok (.istore_n 3, 1) := by decide +kernel
theorem dX7_seal_8 : decode cX7_seal 8 = .ok (.aload_n 2, 1) := by decide +kernel
theorem dX7_seal_9 : decode cX7_seal 9 = .ok (.ifnull 44, 3) := by decide +kernel
theorem dX7_seal_12 : decode cX7_seal 12 = .ok (.aload_n 0, 1) := by decide +kernel
theorem dX7_seal_13 : decode cX7_seal 13 = .ok (.getfield 30, 3) := by decide +kernel
theorem dX7_seal_16 : decode cX7_seal 16 = .ok (.getfield 89, 3) := by decide +kernel
theorem dX7_seal_19 : decode cX7_seal 19 = .ok (.sipush 128, 3) := by decide +kernel
theorem dX7_seal_22 : decode cX7_seal 22 = .ok (.if_icmp .gt 31, 3) := by decide +kernel
theorem dX7_seal_25 : decode cX7_seal 25 = .ok (.aload_n 0, 1) := by decide +kernel
theorem dX7_seal_26 : decode cX7_seal 26 = .ok (.getfield 21, 3) := by decide +kernel
theorem dX7_seal_29 : decode cX7_seal 29 = .ok (.aload_n 0, 1) := by decide +kernel
theorem dX7_seal_30 : decode cX7_seal 30 = .ok (.getfield 30, 3) := by decide +kernel
theorem dX7_seal_33 : decode cX7_seal 33 = .ok (.aload_n 0, 1) := by decide +kernel
theorem dX7_seal_34 : decode cX7_seal 34 = .ok (.getfield 37, 3) := by decide +kernel
theorem dX7_seal_37 : decode cX7_seal 37 = .ok (.aload_n 2, 1) := by decide +kernel
theorem dX7_seal_38 : decode cX7_seal 38 = .ok (.aload_n 0, 1) := by decide +kernel
theorem dX7_seal_39 : decode cX7_seal 39 = .ok (.getfield 34, 3) := by decide +kernel
theorem dX7_seal_42 : decode cX7_seal 42 = .ok (.invokevirtual 176, 3) := by decide +kernel
theorem dX7_seal_45 : decode cX7_seal 45 = .ok (.aload_n 0, 1) := by decide +kernel
theorem dX7_seal_46 : decode cX7_seal 46 = .ok (.getfield 34, 3) := by decide +kernel
theorem dX7_seal_49 : decode cX7_seal 49 = .ok (.getfield 89, 3) := by decide +kernel
theorem dX7_seal_52 : decode cX7_seal 52 = .ok (.istore_n 3, 1) := by decide +kernel
theorem dX7_seal_53 : decode cX7_seal 53 = .ok (.aload_n 0, 1) := by decide +kernel
theorem dX7_seal_54 : decode cX7_seal 54 = .ok (.getfield 30, 3) := by decide +kernel
theorem dX7_seal_57 : decode cX7_seal 57 = .ok (.iconst 0, 1) := by decide +kernel
theorem dX7_seal_58 : decode cX7_seal 58 = .ok (.putfield 89, 3) := by decide +kernel
theorem dX7_seal_61 : decode cX7_seal 61 = .ok (.iload_n 3, 1) := by decide +kernel
theorem dX7_seal_62 : decode cX7_seal 62 = .ok (.ireturn, 1) := by decide +kernel
theorem dX7_load_0 : decode cX7_load 0 = .ok (.bipush (-6), 2) := by decide +kernel
theorem dX7_load_2 : decode cX7_load 2 = .ok (.istore_n 1, 1) := by decide +kernel
theorem dX7_load_3 : decode cX7_load 3 = .ok (.aload_n 0, 1) := by decide +kernel
theorem dX7_load_4 : decode cX7_load 4 = .ok (.getfield 21, 3) := by decide +kernel
theorem dX7_load_7 : decode cX7_load 7 = .ok (.aload_n 0, 1) := by decide +kernel
theorem dX7_load_8 : decode cX7_load 8 = .ok (.getfield 30, 3) := by decide +kernel
theorem dX7_load_11 : decode cX7_load 11 = .ok (.invokevirtual 180, 3) := by decide +kernel
theorem dX7_load_14 : decode cX7_load 14 = .ok (.ifCond .eq 8, 3) := by decide +kernel
theorem dX7_load_17 : decode cX7_load 17 = .ok (.aload_n 0, 1) := by decide +kernel
theorem dX7_load_18 : decode cX7_load 18 = .ok (.invokevirtual 184, 3) := by decide +kernel
theorem dX7_load_21 : decode cX7_load 21 = .ok (.istore_n 1, 1) := by decide +kernel
theorem dX7_load_22 : decode cX7_load 22 = .ok (.aload_n 0, 1) := by decide +kernel
theorem dX7_load_23 : decode cX7_load 23 = .ok (.getfield 30, 3) := by decide +kernel
theorem dX7_load_26 : decode cX7_load 26 = .ok (.iconst 0, 1) := by decide +kernel
theorem dX7_load_27 : decode cX7_load 27 = .ok (.putfield 89, 3) := by decide +kernel
theorem dX7_load_30 : decode cX7_load 30 = .ok (.iload_n 1, 1) := by decide +kernel
theorem dX7_load_31 : decode cX7_load 31 = .ok (.ireturn, 1) := by decide +kernel
theorem dX7_unseal_0 : decode cX7_unseal 0 = .ok (.aload_n 0, 1) := by decide +kernel
theorem dX7_unseal_1 : decode cX7_unseal 1 = .ok (.iload_n 1, 1) := by decide +kernel
theorem dX7_unseal_2 : decode cX7_unseal 2 = .ok (.invokevirtual 188, 3) := by decide +kernel
theorem dX7_unseal_5 : decode cX7_unseal 5 = .ok (.astore_n 3, 1) := by decide +kernel
theorem dX7_unseal_6 : decode cX7_unseal 6 = .ok (.aload_n 3, 1) := by decide +kernel
theorem dX7_unseal_7 : decode cX7_unseal 7 = .ok (.ifnonnull 6, 3) := by decide +kernel
theorem dX7_unseal_10 : decode cX7_unseal 10 = .ok (.bipush (-2), 2) := by decide +kernel
theorem dX7_unseal_12 : decode cX7_unseal 12 = .ok (.ireturn, 1) := by decide +kernel
theorem dX7_unseal_13 : decode cX7_unseal 13 = .ok (.aload_n 0, 1) := by decide +kernel
theorem dX7_unseal_14 : decode cX7_unseal 14 = .ok (.aload_n 3, 1) := by decide +kernel
theorem dX7_unseal_15 : decode cX7_unseal 15 = .ok (.iload_n 2, 1) := by decide +kernel
theorem dX7_unseal_16 : decode cX7_unseal 16 = .ok (.iconst 1, 1) := by decide +kernel
theorem dX7_unseal_17 : decode cX7_unseal 17 = .ok (.invokevirtual 192, 3) := by decide +kernel
theorem dX7_unseal_20 : decode cX7_unseal 20 = .ok (.istore 4, 2) := by decide +kernel
theorem dX7_unseal_22 : decode cX7_unseal 22 = .ok (.iload 4, 2) := by decide +kernel
theorem dX7_unseal_24 : decode cX7_unseal 24 = .ok (.ifCond .eq 6, 3) := by decide +kernel
theorem dX7_unseal_27 : decode cX7_unseal 27 = .ok (.iload 4, 2) := by decide +kernel
theorem dX7_unseal_29 : decode cX7_unseal 29 = .ok (.ireturn, 1) := by decide +kernel
theorem dX7_unseal_30 : decode cX7_unseal 30 = .ok (.aload_n 0, 1) := by decide +kernel
theorem dX7_unseal_31 : decode cX7_unseal 31 = .ok (.aload_n 3, 1) := by decide +kernel
theorem dX7_unseal_32 : decode cX7_unseal 32 = .ok (.getfield 196, 3) := by decide +kernel
theorem dX7_unseal_35 : decode cX7_unseal 35 = .ok (.getfield 93, 3) := by decide +kernel
theorem dX7_unseal_38 : decode cX7_unseal 38 = .ok (.aload_n 3, 1) := by decide +kernel
theorem dX7_unseal_39 : decode cX7_unseal 39 = .ok (.getfield 196, 3) := by decide +kernel
theorem dX7_unseal_42 : decode cX7_unseal 42 = .ok (.getfield 89, 3) := by decide +kernel
theorem dX7_unseal_45 : decode cX7_unseal 45 = .ok (.invokevirtual 103, 3) := by decide +kernel
theorem dX7_unseal_48 : decode cX7_unseal 48 = .ok (.ireturn, 1) := by decide +kernel
theorem dX7_flush_0 : decode cX7_flush 0 = .ok (.aload_n 0, 1) := by decide +kernel
theorem dX7_flush_1 : decode cX7_flush 1 = .ok (.iload_n 1, 1) := by decide +kernel
theorem dX7_flush_2 : decode cX7_flush 2 = .ok (.invokevirtual 188, 3) := by decide +kernel
theorem dX7_flush_5 : decode cX7_flush 5 = .ok (.astore_n 2, 1) := by decide +kernel
theorem dX7_flush_6 : decode cX7_flush 6 = .ok (.aload_n 2, 1) := by decide +kernel
theorem dX7_flush_7 : decode cX7_flush 7 = .ok (.ifnonnull 6, 3) := by decide +kernel
theorem dX7_flush_10 : decode cX7_flush 10 = .ok (.bipush (-2), 2) := by decide +kernel
theorem dX7_flush_12 : decode cX7_flush 12 = .ok (.ireturn, 1) := by decide +kernel
theorem dX7_flush_13 : decode cX7_flush 13 = .ok (.aload_n 2, 1) := by decide +kernel
theorem dX7_flush_14 : decode cX7_flush 14 = .ok (.iconst 0, 1) := by decide +kernel
theorem dX7_flush_15 : decode cX7_flush 15 = .ok (.putfield 199, 3) := by decide +kernel
theorem dX7_flush_18 : decode cX7_flush 18 = .ok (.iconst 0, 1) := by decide +kernel
theorem dX7_flush_19 : decode cX7_flush 19 = .ok (.ireturn, 1) := by decide +kernel
theorem dX7_define_0 : decode cX7_define 0 = .ok (.aload_n 0, 1) := by decide +kernel
theorem dX7_define_1 : decode cX7_define 1 = .ok (.invokevirtual 100, 3) := by decide +kernel
theorem dX7_define_4 : decode cX7_define 4 = .ok (.aload_n 0, 1) := by decide +kernel
theorem dX7_define_5 : decode cX7_define 5 = .ok (.iload 4, 2) := by decide +kernel
theorem dX7_define_7 : decode cX7_define 7 = .ok (.invokevirtual 172, 3) := by decide +kernel
theorem dX7_define_10 : decode cX7_define 10 = .ok (.astore 5, 2) := by decide +kernel
theorem dX7_define_12 : decode cX7_define 12 = .ok (.aload 5, 2) := by decide +kernel
theorem dX7_define_14 : decode cX7_define 14 = .ok (.ifnull 21, 3) := by decide +kernel
theorem dX7_define_17 : decode cX7_define 17 = .ok (.iload_n 1, 1) := by decide +kernel
theorem dX7_define_18 : decode cX7_define 18 = .ok (.ifCond .lt 17, 3) := by decide +kernel
theorem dX7_define_21 : decode cX7_define 21 = .ok (.iload_n 1, 1) := by decide +kernel
theorem dX7_define_22 : decode cX7_define 22 = .ok (.bipush 8, 2) := by decide +kernel
theorem dX7_define_24 : decode cX7_define 24 = .ok (.if_icmp .ge 11, 3) := by decide +kernel
theorem dX7_define_27 : decode cX7_define 27 = .ok (.iload_n 2, 1) := by decide +kernel
theorem dX7_define_28 : decode cX7_define 28 = .ok (.iload_n 3, 1) := by decide +kernel
theorem dX7_define_29 : decode cX7_define 29 = .ok (.invokestatic 202, 3) := by decide +kernel
theorem dX7_define_32 : decode cX7_define 32 = .ok (.ifCond .ne 5, 3) := by decide +kernel
theorem dX7_define_35 : decode cX7_define 35 = .ok (.iconst (-1), 1) := by decide +kernel
theorem dX7_define_36 : decode cX7_define 36 = .ok (.ireturn, 1) := by decide +kernel
theorem dX7_define_37 : decode cX7_define 37 = .ok (.aload_n 0, 1) := by decide +kernel
theorem dX7_define_38 : decode cX7_define 38 = .ok (.getfield 73, 3) := by decide +kernel
theorem dX7_define_41 : decode cX7_define 41 = .ok (.iload_n 1, 1) := by decide +kernel
theorem dX7_define_42 : decode cX7_define 42 = .ok (.aaload, 1) := by decide +kernel
theorem dX7_define_43 : decode cX7_define 43 = .ok (.getfield 206, 3) := by decide +kernel
theorem dX7_define_46 : decode cX7_define 46 = .ok (.getfield 199, 3) := by decide +kernel
theorem dX7_define_49 : decode cX7_define 49 = .ok (.ifCond .eq 6, 3) := by decide +kernel
theorem dX7_define_52 : decode cX7_define 52 = .ok (.bipush (-2), 2) := by decide +kernel
theorem dX7_define_54 : decode cX7_define 54 = .ok (.ireturn, 1) := by decide +kernel
theorem dX7_define_55 : decode cX7_define 55 = .ok (.aload_n 0, 1) := by decide +kernel
theorem dX7_define_56 : decode cX7_define 56 = .ok (.aload_n 0, 1) := by decide +kernel
theorem dX7_define_57 : decode cX7_define 57 = .ok (.getfield 41, 3) := by decide +kernel
theorem dX7_define_60 : decode cX7_define 60 = .ok (.invokevirtual 210, 3) := by decide +kernel
theorem dX7_define_63 : decode cX7_define 63 = .ok (.istore 6, 2) := by decide +kernel
theorem dX7_define_65 : decode cX7_define 65 = .ok (.iload 6, 2) := by decide +kernel
theorem dX7_define_67 : decode cX7_define 67 = .ok (.ifCond .eq 6, 3) := by decide +kernel
theorem dX7_define_70 : decode cX7_define 70 = .ok (.iload 6, 2) := by decide +kernel
theorem dX7_define_72 : decode cX7_define 72 = .ok (.ireturn, 1) := by decide +kernel
theorem dX7_define_73 : decode cX7_define 73 = .ok (.aload_n 0, 1) := by decide +kernel
theorem dX7_define_74 : decode cX7_define 74 = .ok (.getfield 73, 3) := by decide +kernel
theorem dX7_define_77 : decode cX7_define 77 = .ok (.iload_n 1, 1) := by decide +kernel
theorem dX7_define_78 : decode cX7_define 78 = .ok (.aaload, 1) := by decide +kernel
theorem dX7_define_79 : decode cX7_define 79 = .ok (.iload_n 2, 1) := by decide +kernel
theorem dX7_define_80 : decode cX7_define 80 = .ok (.iload_n 3, 1) := by decide +kernel
theorem dX7_define_81 : decode cX7_define 81 = .ok (.invokevirtual 214, 3) := by decide +kernel
theorem dX7_define_84 : decode cX7_define 84 = .ok (.aload_n 0, 1) := by decide +kernel
theorem dX7_define_85 : decode cX7_define 85 = .ok (.getfield 47, 3) := by decide +kernel
theorem dX7_define_88 : decode cX7_define 88 = .ok (.aload_n 0, 1) := by decide +kernel
theorem dX7_define_89 : decode cX7_define 89 = .ok (.getfield 73, 3) := by decide +kernel
theorem dX7_define_92 : decode cX7_define 92 = .ok (.iload_n 1, 1) := by decide +kernel
theorem dX7_define_93 : decode cX7_define 93 = .ok (.aaload, 1) := by decide +kernel
theorem dX7_define_94 : decode cX7_define 94 = .ok (.getfield 206, 3) := by decide +kernel
theorem dX7_define_97 : decode cX7_define 97 = .ok (.getfield 217, 3) := by decide +kernel
theorem dX7_define_100 : decode cX7_define 100 = .ok (.invokestatic 107, 3) := by decide +kernel
theorem dX7_define_103 : decode cX7_define 103 = .ok (.aload 5, 2) := by decide +kernel
theorem dX7_define_105 : decode cX7_define 105 = .ok (.aload_n 0, 1) := by decide +kernel
theorem dX7_define_106 : decode cX7_define 106 = .ok (.getfield 73, 3) := by decide +kernel
theorem dX7_define_109 : decode cX7_define 109 = .ok (.iload_n 1, 1) := by decide +kernel
theorem dX7_define_110 : decode cX7_define 110 = .ok (.aaload, 1) := by decide +kernel
theorem dX7_define_111 : decode cX7_define 111 = .ok (.getfield 206, 3) := by decide +kernel
theorem dX7_define_114 : decode cX7_define 114 = .ok (.getfield 220, 3) := by decide +kernel
theorem dX7_define_117 : decode cX7_define 117 = .ok (.invokestatic 107, 3) := by decide +kernel
theorem dX7_define_120 : decode cX7_define 120 = .ok (.iconst 0, 1) := by decide +kernel
theorem dX7_define_121 : decode cX7_define 121 = .ok (.ireturn, 1) := by decide +kernel
theorem dX7_undefine_0 : decode cX7_undefine 0 = .ok (.aload_n 0, 1) := by decide +kernel
theorem dX7_undefine_1 : decode cX7_undefine 1 = .ok (.iload_n 1, 1) := by decide +kernel
theorem dX7_undefine_2 : decode cX7_undefine 2 = .ok (.invokevirtual 223, 3) := by decide +kernel
theorem dX7_undefine_5 : decode cX7_undefine 5 = .ok (.astore_n 2, 1) := by decide +kernel
theorem dX7_undefine_6 : decode cX7_undefine 6 = .ok (.aload_n 2, 1) := by decide +kernel
theorem dX7_undefine_7 : decode cX7_undefine 7 = .ok (.ifnonnull 6, 3) := by decide +kernel
theorem dX7_undefine_10 : decode cX7_undefine 10 = .ok (.bipush (-2), 2) := by decide +kernel
theorem dX7_undefine_12 : decode cX7_undefine 12 = .ok (.ireturn, 1) := by decide +kernel
theorem dX7_undefine_13 : decode cX7_undefine 13 = .ok (.aload_n 0, 1) := by decide +kernel
theorem dX7_undefine_14 : decode cX7_undefine 14 = .ok (.aload_n 0, 1) := by decide +kernel
theorem dX7_undefine_15 : decode cX7_undefine 15 = .ok (.getfield 41, 3) := by decide +kernel
theorem dX7_undefine_18 : decode cX7_undefine 18 = .ok (.invokevirtual 210, 3) := by decide +kernel
theorem dX7_undefine_21 : decode cX7_undefine 21 = .ok (.istore_n 3, 1) := by decide +kernel
theorem dX7_undefine_22 : decode cX7_undefine 22 = .ok (.iload_n 3, 1) := by decide +kernel
theorem dX7_undefine_23 : decode cX7_undefine 23 = .ok (.ifCond .eq 5, 3) := by decide +kernel
theorem dX7_undefine_26 : decode cX7_undefine 26 = .ok (.iload_n 3, 1) := by decide +kernel
theorem dX7_undefine_27 : decode cX7_undefine 27 = .ok (.ireturn, 1) := by decide +kernel
theorem dX7_undefine_28 : decode cX7_undefine 28 = .ok (.aload_n 2, 1) := by decide +kernel
theorem dX7_undefine_29 : decode cX7_undefine 29 = .ok (.getfield 206, 3) := by decide +kernel
theorem dX7_undefine_32 : decode cX7_undefine 32 = .ok (.iconst 0, 1) := by decide +kernel
theorem dX7_undefine_33 : decode cX7_undefine 33 = .ok (.putfield 199, 3) := by decide +kernel
theorem dX7_undefine_36 : decode cX7_undefine 36 = .ok (.iconst 0, 1) := by decide +kernel
theorem dX7_undefine_37 : decode cX7_undefine 37 = .ok (.ireturn, 1) := by decide +kernel
theorem dX7_write_0 : decode cX7_write 0 = .ok (.aload_n 0, 1) := by decide +kernel
theorem dX7_write_1 : decode cX7_write 1 = .ok (.aload_n 0, 1) := by decide +kernel
theorem dX7_write_2 : decode cX7_write 2 = .ok (.iload_n 1, 1) := by decide +kernel
theorem dX7_write_3 : decode cX7_write 3 = .ok (.iconst 0, 1) := by decide +kernel
theorem dX7_write_4 : decode cX7_write 4 = .ok (.invokevirtual 227, 3) := by decide +kernel
theorem dX7_write_7 : decode cX7_write 7 = .ok (.iload_n 2, 1) := by decide +kernel
theorem dX7_write_8 : decode cX7_write 8 = .ok (.iload_n 3, 1) := by decide +kernel
theorem dX7_write_9 : decode cX7_write 9 = .ok (.invokevirtual 231, 3) := by decide +kernel
theorem dX7_write_12 : decode cX7_write 12 = .ok (.istore 4, 2) := by decide +kernel
theorem dX7_write_14 : decode cX7_write 14 = .ok (.aload_n 0, 1) := by decide +kernel
theorem dX7_write_15 : decode cX7_write 15 = .ok (.getfield 30, 3) := by decide +kernel
theorem dX7_write_18 : decode cX7_write 18 = .ok (.iconst 0, 1) := by decide +kernel
theorem dX7_write_19 : decode cX7_write 19 = .ok (.putfield 89, 3) := by decide +kernel
theorem dX7_write_22 : decode cX7_write 22 = .ok (.iload 4, 2) := by decide +kernel
theorem dX7_write_24 : decode cX7_write 24 = .ok (.ireturn, 1) := by decide +kernel
theorem dX7_count_0 : decode cX7_count 0 = .ok (.aload_n 0, 1) := by decide +kernel
theorem dX7_count_1 : decode cX7_count 1 = .ok (.iload_n 1, 1) := by decide +kernel
theorem dX7_count_2 : decode cX7_count 2 = .ok (.iconst 1, 1) := by decide +kernel
theorem dX7_count_3 : decode cX7_count 3 = .ok (.invokevirtual 227, 3) := by decide +kernel
theorem dX7_count_6 : decode cX7_count 6 = .ok (.astore_n 3, 1) := by decide +kernel
theorem dX7_count_7 : decode cX7_count 7 = .ok (.aload_n 3, 1) := by decide +kernel
theorem dX7_count_8 : decode cX7_count 8 = .ok (.ifnonnull 6, 3) := by decide +kernel
theorem dX7_count_11 : decode cX7_count 11 = .ok (.bipush (-2), 2) := by decide +kernel
theorem dX7_count_13 : decode cX7_count 13 = .ok (.ireturn, 1) := by decide +kernel
theorem dX7_count_14 : decode cX7_count 14 = .ok (.aload_n 0, 1) := by decide +kernel
theorem dX7_count_15 : decode cX7_count 15 = .ok (.aload_n 3, 1) := by decide +kernel
theorem dX7_count_16 : decode cX7_count 16 = .ok (.iload_n 2, 1) := by decide +kernel
theorem dX7_count_17 : decode cX7_count 17 = .ok (.iconst 3, 1) := by decide +kernel
theorem dX7_count_18 : decode cX7_count 18 = .ok (.invokevirtual 235, 3) := by decide +kernel
theorem dX7_count_21 : decode cX7_count 21 = .ok (.istore 4, 2) := by decide +kernel
theorem dX7_count_23 : decode cX7_count 23 = .ok (.iload 4, 2) := by decide +kernel
theorem dX7_count_25 : decode cX7_count 25 = .ok (.ifCond .eq 6, 3) := by decide +kernel
theorem dX7_count_28 : decode cX7_count 28 = .ok (.iload 4, 2) := by decide +kernel
theorem dX7_count_30 : decode cX7_count 30 = .ok (.ireturn, 1) := by decide +kernel
theorem dX7_count_31 : decode cX7_count 31 = .ok (.aload_n 3, 1) := by decide +kernel
theorem dX7_count_32 : decode cX7_count 32 = .ok (.aload_n 3, 1) := by decide +kernel
theorem dX7_count_33 : decode cX7_count 33 = .ok (.getfield 238, 3) := by decide +kernel
theorem dX7_count_36 : decode cX7_count 36 = .ok (.ifCond .eq 10, 3) := by decide +kernel
theorem dX7_count_39 : decode cX7_count 39 = .ok (.aload_n 3, 1) := by decide +kernel
theorem dX7_count_40 : decode cX7_count 40 = .ok (.getfield 241, 3) := by decide +kernel
theorem dX7_count_43 : decode cX7_count 43 = .ok (.goto 7, 3) := by decide +kernel
theorem dX7_count_46 : decode cX7_count 46 = .ok (.aload_n 0, 1) := by decide +kernel
theorem dX7_count_47 : decode cX7_count 47 = .ok (.getfield 245, 3) := by decide +kernel
theorem dX7_count_50 : decode cX7_count 50 = .ok (.lconst 1, 1) := by decide +kernel
theorem dX7_count_51 : decode cX7_count 51 = .ok (.ladd, 1) := by decide +kernel
theorem dX7_count_52 : decode cX7_count 52 = .ok (.putfield 241, 3) := by decide +kernel
theorem dX7_count_55 : decode cX7_count 55 = .ok (.aload_n 3, 1) := by decide +kernel
theorem dX7_count_56 : decode cX7_count 56 = .ok (.iconst 1, 1) := by decide +kernel
theorem dX7_count_57 : decode cX7_count 57 = .ok (.putfield 238, 3) := by decide +kernel
theorem dX7_count_60 : decode cX7_count 60 = .ok (.aload_n 3, 1) := by decide +kernel
theorem dX7_count_61 : decode cX7_count 61 = .ok (.invokevirtual 248, 3) := by decide +kernel
theorem dX7_count_64 : decode cX7_count 64 = .ok (.aload_n 0, 1) := by decide +kernel
theorem dX7_count_65 : decode cX7_count 65 = .ok (.aload_n 0, 1) := by decide +kernel
theorem dX7_count_66 : decode cX7_count 66 = .ok (.getfield 245, 3) := by decide +kernel
theorem dX7_count_69 : decode cX7_count 69 = .ok (.aload_n 3, 1) := by decide +kernel
theorem dX7_count_70 : decode cX7_count 70 = .ok (.getfield 241, 3) := by decide +kernel
theorem dX7_count_73 : decode cX7_count 73 = .ok (.invokestatic 251, 3) := by decide +kernel
theorem dX7_count_76 : decode cX7_count 76 = .ok (.putfield 245, 3) := by decide +kernel
theorem dX7_count_79 : decode cX7_count 79 = .ok (.aload_n 3, 1) := by decide +kernel
theorem dX7_count_80 : decode cX7_count 80 = .ok (.getfield 241, 3) := by decide +kernel
theorem dX7_count_83 : decode cX7_count 83 = .ok (.ldc2_w 257, 3) := by decide +kernel
theorem dX7_count_86 : decode cX7_count 86 = .ok (.land, 1) := by decide +kernel
theorem dX7_count_87 : decode cX7_count 87 = .ok (.l2i, 1) := by decide +kernel
theorem dX7_count_88 : decode cX7_count 88 = .ok (.ireturn, 1) := by decide +kernel
theorem dX7_chain_0 : decode cX7_chain 0 = .ok (.aload_n 0, 1) := by decide +kernel
theorem dX7_chain_1 : decode cX7_chain 1 = .ok (.aload_n 0, 1) := by decide +kernel
theorem dX7_chain_2 : decode cX7_chain 2 = .ok (.iload_n 1, 1) := by decide +kernel
theorem dX7_chain_3 : decode cX7_chain 3 = .ok (.iconst 2, 1) := by decide +kernel
theorem dX7_chain_4 : decode cX7_chain 4 = .ok (.invokevirtual 227, 3) := by decide +kernel
theorem dX7_chain_7 : decode cX7_chain 7 = .ok (.iload_n 2, 1) := by decide +kernel
theorem dX7_chain_8 : decode cX7_chain 8 = .ok (.invokevirtual 259, 3) := by decide +kernel
theorem dX7_chain_11 : decode cX7_chain 11 = .ok (.istore_n 3, 1) := by decide +kernel
theorem dX7_chain_12 : decode cX7_chain 12 = .ok (.aload_n 0, 1) := by decide +kernel
theorem dX7_chain_13 : decode cX7_chain 13 = .ok (.getfield 30, 3) := by decide +kernel
theorem dX7_chain_16 : decode cX7_chain 16 = .ok (.iconst 0, 1) := by decide +kernel
theorem dX7_chain_17 : decode cX7_chain 17 = .ok (.putfield 89, 3) := by decide +kernel
theorem dX7_chain_20 : decode cX7_chain 20 = .ok (.iload_n 3, 1) := by decide +kernel
theorem dX7_chain_21 : decode cX7_chain 21 = .ok (.ireturn, 1) := by decide +kernel
theorem dX7_read_0 : decode cX7_read 0 = .ok (.aload_n 0, 1) := by decide +kernel
theorem dX7_read_1 : decode cX7_read 1 = .ok (.iload_n 1, 1) := by decide +kernel
theorem dX7_read_2 : decode cX7_read 2 = .ok (.invokevirtual 223, 3) := by decide +kernel
theorem dX7_read_5 : decode cX7_read 5 = .ok (.astore_n 3, 1) := by decide +kernel
theorem dX7_read_6 : decode cX7_read 6 = .ok (.aload_n 3, 1) := by decide +kernel
theorem dX7_read_7 : decode cX7_read 7 = .ok (.ifnonnull 6, 3) := by decide +kernel
theorem dX7_read_10 : decode cX7_read 10 = .ok (.bipush (-2), 2) := by decide +kernel
theorem dX7_read_12 : decode cX7_read 12 = .ok (.ireturn, 1) := by decide +kernel
theorem dX7_read_13 : decode cX7_read 13 = .ok (.aload_n 3, 1) := by decide +kernel
theorem dX7_read_14 : decode cX7_read 14 = .ok (.getfield 238, 3) := by decide +kernel
theorem dX7_read_17 : decode cX7_read 17 = .ok (.ifCond .ne 6, 3) := by decide +kernel
theorem dX7_read_20 : decode cX7_read 20 = .ok (.bipush (-3), 2) := by decide +kernel
theorem dX7_read_22 : decode cX7_read 22 = .ok (.ireturn, 1) := by decide +kernel
theorem dX7_read_23 : decode cX7_read 23 = .ok (.aload_n 0, 1) := by decide +kernel
theorem dX7_read_24 : decode cX7_read 24 = .ok (.aload_n 3, 1) := by decide +kernel
theorem dX7_read_25 : decode cX7_read 25 = .ok (.getfield 206, 3) := by decide +kernel
theorem dX7_read_28 : decode cX7_read 28 = .ok (.iload_n 2, 1) := by decide +kernel
theorem dX7_read_29 : decode cX7_read 29 = .ok (.iconst 5, 1) := by decide +kernel
theorem dX7_read_30 : decode cX7_read 30 = .ok (.invokevirtual 192, 3) := by decide +kernel
theorem dX7_read_33 : decode cX7_read 33 = .ok (.istore 4, 2) := by decide +kernel
theorem dX7_read_35 : decode cX7_read 35 = .ok (.iload 4, 2) := by decide +kernel
theorem dX7_read_37 : decode cX7_read 37 = .ok (.ifCond .eq 6, 3) := by decide +kernel
theorem dX7_read_40 : decode cX7_read 40 = .ok (.iload 4, 2) := by decide +kernel
theorem dX7_read_42 : decode cX7_read 42 = .ok (.ireturn, 1) := by decide +kernel
theorem dX7_read_43 : decode cX7_read 43 = .ok (.aload_n 0, 1) := by decide +kernel
theorem dX7_read_44 : decode cX7_read 44 = .ok (.aload_n 3, 1) := by decide +kernel
theorem dX7_read_45 : decode cX7_read 45 = .ok (.getfield 206, 3) := by decide +kernel
theorem dX7_read_48 : decode cX7_read 48 = .ok (.getfield 196, 3) := by decide +kernel
theorem dX7_read_51 : decode cX7_read 51 = .ok (.getfield 93, 3) := by decide +kernel
theorem dX7_read_54 : decode cX7_read 54 = .ok (.aload_n 3, 1) := by decide +kernel
theorem dX7_read_55 : decode cX7_read 55 = .ok (.getfield 206, 3) := by decide +kernel
theorem dX7_read_58 : decode cX7_read 58 = .ok (.getfield 196, 3) := by decide +kernel
theorem dX7_read_61 : decode cX7_read 61 = .ok (.getfield 89, 3) := by decide +kernel
theorem dX7_read_64 : decode cX7_read 64 = .ok (.invokevirtual 103, 3) := by decide +kernel
theorem dX7_read_67 : decode cX7_read 67 = .ok (.ireturn, 1) := by decide +kernel
theorem dX7_shut_0 : decode cX7_shut 0 = .ok (.aload_n 0, 1) := by decide +kernel
theorem dX7_shut_1 : decode cX7_shut 1 = .ok (.iload_n 1, 1) := by decide +kernel
theorem dX7_shut_2 : decode cX7_shut 2 = .ok (.invokevirtual 223, 3) := by decide +kernel
theorem dX7_shut_5 : decode cX7_shut 5 = .ok (.astore_n 3, 1) := by decide +kernel
theorem dX7_shut_6 : decode cX7_shut 6 = .ok (.aload_n 3, 1) := by decide +kernel
theorem dX7_shut_7 : decode cX7_shut 7 = .ok (.ifnonnull 6, 3) := by decide +kernel
theorem dX7_shut_10 : decode cX7_shut 10 = .ok (.bipush (-2), 2) := by decide +kernel
theorem dX7_shut_12 : decode cX7_shut 12 = .ok (.ireturn, 1) := by decide +kernel
theorem dX7_shut_13 : decode cX7_shut 13 = .ok (.aload_n 0, 1) := by decide +kernel
theorem dX7_shut_14 : decode cX7_shut 14 = .ok (.aload_n 3, 1) := by decide +kernel
theorem dX7_shut_15 : decode cX7_shut 15 = .ok (.getfield 206, 3) := by decide +kernel
theorem dX7_shut_18 : decode cX7_shut 18 = .ok (.iload_n 2, 1) := by decide +kernel
theorem dX7_shut_19 : decode cX7_shut 19 = .ok (.bipush 6, 2) := by decide +kernel
theorem dX7_shut_21 : decode cX7_shut 21 = .ok (.invokevirtual 192, 3) := by decide +kernel
theorem dX7_shut_24 : decode cX7_shut 24 = .ok (.istore 4, 2) := by decide +kernel
theorem dX7_shut_26 : decode cX7_shut 26 = .ok (.iload 4, 2) := by decide +kernel
theorem dX7_shut_28 : decode cX7_shut 28 = .ok (.ifCond .eq 6, 3) := by decide +kernel
theorem dX7_shut_31 : decode cX7_shut 31 = .ok (.iload 4, 2) := by decide +kernel
theorem dX7_shut_33 : decode cX7_shut 33 = .ok (.ireturn, 1) := by decide +kernel
theorem dX7_shut_34 : decode cX7_shut 34 = .ok (.aload_n 3, 1) := by decide +kernel
theorem dX7_shut_35 : decode cX7_shut 35 = .ok (.iconst 1, 1) := by decide +kernel
theorem dX7_shut_36 : decode cX7_shut 36 = .ok (.putfield 263, 3) := by decide +kernel
theorem dX7_shut_39 : decode cX7_shut 39 = .ok (.iconst 0, 1) := by decide +kernel
theorem dX7_shut_40 : decode cX7_shut 40 = .ok (.ireturn, 1) := by decide +kernel
theorem dX7_own_0 : decode cX7_own 0 = .ok (.aload_n 0, 1) := by decide +kernel
theorem dX7_own_1 : decode cX7_own 1 = .ok (.invokevirtual 100, 3) := by decide +kernel
theorem dX7_own_4 : decode cX7_own 4 = .ok (.aload_n 0, 1) := by decide +kernel
theorem dX7_own_5 : decode cX7_own 5 = .ok (.aload_n 0, 1) := by decide +kernel
theorem dX7_own_6 : decode cX7_own 6 = .ok (.getfield 41, 3) := by decide +kernel
theorem dX7_own_9 : decode cX7_own 9 = .ok (.invokevirtual 210, 3) := by decide +kernel
theorem dX7_own_12 : decode cX7_own 12 = .ok (.istore_n 1, 1) := by decide +kernel
theorem dX7_own_13 : decode cX7_own 13 = .ok (.iload_n 1, 1) := by decide +kernel
theorem dX7_own_14 : decode cX7_own 14 = .ok (.ifCond .eq 5, 3) := by decide +kernel
theorem dX7_own_17 : decode cX7_own 17 = .ok (.iload_n 1, 1) := by decide +kernel
theorem dX7_own_18 : decode cX7_own 18 = .ok (.ireturn, 1) := by decide +kernel
theorem dX7_own_19 : decode cX7_own 19 = .ok (.aload_n 0, 1) := by decide +kernel
theorem dX7_own_20 : decode cX7_own 20 = .ok (.getfield 47, 3) := by decide +kernel
theorem dX7_own_23 : decode cX7_own 23 = .ok (.aload_n 0, 1) := by decide +kernel
theorem dX7_own_24 : decode cX7_own 24 = .ok (.getfield 41, 3) := by decide +kernel
theorem dX7_own_27 : decode cX7_own 27 = .ok (.invokestatic 107, 3) := by decide +kernel
theorem dX7_own_30 : decode cX7_own 30 = .ok (.iconst 0, 1) := by decide +kernel
theorem dX7_own_31 : decode cX7_own 31 = .ok (.ireturn, 1) := by decide +kernel
theorem dX7_unlock_0 : decode cX7_unlock 0 = .ok (.aload_n 0, 1) := by decide +kernel
theorem dX7_unlock_1 : decode cX7_unlock 1 = .ok (.getfield 37, 3) := by decide +kernel
theorem dX7_unlock_4 : decode cX7_unlock 4 = .ok (.aload_n 0, 1) := by decide +kernel
theorem dX7_unlock_5 : decode cX7_unlock 5 = .ok (.getfield 41, 3) := by decide +kernel
theorem dX7_unlock_8 : decode cX7_unlock 8 = .ok (.invokestatic 266, 3) := by decide +kernel
theorem dX7_unlock_11 : decode cX7_unlock 11 = .ok (.ifCond .ne 16, 3) := by decide +kernel
theorem dX7_unlock_14 : decode cX7_unlock 14 = .ok (.aload_n 0, 1) := by decide +kernel
theorem dX7_unlock_15 : decode cX7_unlock 15 = .ok (.dup, 1) := by decide +kernel
theorem dX7_unlock_16 : decode cX7_unlock 16 = .ok (.getfield 270, 3) := by decide +kernel
theorem dX7_unlock_19 : decode cX7_unlock 19 = .ok (.iconst 1, 1) := by decide +kernel
theorem dX7_unlock_20 : decode cX7_unlock 20 = .ok (.iadd, 1) := by decide +kernel
theorem dX7_unlock_21 : decode cX7_unlock 21 = .ok (.putfield 270, 3) := by decide +kernel
theorem dX7_unlock_24 : decode cX7_unlock 24 = .ok (.bipush (-4), 2) := by decide +kernel
theorem dX7_unlock_26 : decode cX7_unlock 26 = .ok (.ireturn, 1) := by decide +kernel
theorem dX7_unlock_27 : decode cX7_unlock 27 = .ok (.aload_n 0, 1) := by decide +kernel
theorem dX7_unlock_28 : decode cX7_unlock 28 = .ok (.iconst 0, 1) := by decide +kernel
theorem dX7_unlock_29 : decode cX7_unlock 29 = .ok (.putfield 270, 3) := by decide +kernel
theorem dX7_unlock_32 : decode cX7_unlock 32 = .ok (.iconst 0, 1) := by decide +kernel
theorem dX7_unlock_33 : decode cX7_unlock 33 = .ok (.ireturn, 1) := by decide +kernel
theorem dX7_clear_0 : decode cX7_clear 0 = .ok (.aload_n 0, 1) := by decide +kernel
theorem dX7_clear_1 : decode cX7_clear 1 = .ok (.aload_n 0, 1) := by decide +kernel
theorem dX7_clear_2 : decode cX7_clear 2 = .ok (.getfield 41, 3) := by decide +kernel
theorem dX7_clear_5 : decode cX7_clear 5 = .ok (.invokevirtual 210, 3) := by decide +kernel
theorem dX7_clear_8 : decode cX7_clear 8 = .ok (.istore_n 1, 1) := by decide +kernel
theorem dX7_clear_9 : decode cX7_clear 9 = .ok (.iload_n 1, 1) := by decide +kernel
theorem dX7_clear_10 : decode cX7_clear 10 = .ok (.ifCond .eq 5, 3) := by decide +kernel
theorem dX7_clear_13 : decode cX7_clear 13 = .ok (.iload_n 1, 1) := by decide +kernel
theorem dX7_clear_14 : decode cX7_clear 14 = .ok (.ireturn, 1) := by decide +kernel
theorem dX7_clear_15 : decode cX7_clear 15 = .ok (.aload_n 0, 1) := by decide +kernel
theorem dX7_clear_16 : decode cX7_clear 16 = .ok (.getfield 21, 3) := by decide +kernel
theorem dX7_clear_19 : decode cX7_clear 19 = .ok (.invokevirtual 273, 3) := by decide +kernel
theorem dX7_clear_22 : decode cX7_clear 22 = .ok (.iconst 0, 1) := by decide +kernel
theorem dX7_clear_23 : decode cX7_clear 23 = .ok (.istore_n 2, 1) := by decide +kernel
theorem dX7_clear_24 : decode cX7_clear 24 = .ok (.iload_n 2, 1) := by decide +kernel
theorem dX7_clear_25 : decode cX7_clear 25 = .ok (.bipush 8, 2) := by decide +kernel
theorem dX7_clear_27 : decode cX7_clear 27 = .ok (.if_icmp .ge 22, 3) := by decide +kernel
theorem dX7_clear_30 : decode cX7_clear 30 = .ok (.aload_n 0, 1) := by decide +kernel
theorem dX7_clear_31 : decode cX7_clear 31 = .ok (.getfield 73, 3) := by decide +kernel
theorem dX7_clear_34 : decode cX7_clear 34 = .ok (.iload_n 2, 1) := by decide +kernel
theorem dX7_clear_35 : decode cX7_clear 35 = .ok (.aaload, 1) := by decide +kernel
theorem dX7_clear_36 : decode cX7_clear 36 = .ok (.getfield 206, 3) := by decide +kernel
theorem dX7_clear_39 : decode cX7_clear 39 = .ok (.iconst 0, 1) := by decide +kernel
theorem dX7_clear_40 : decode cX7_clear 40 = .ok (.putfield 199, 3) := by decide +kernel
theorem dX7_clear_43 : decode cX7_clear 43 = .ok (.iinc 2 1, 3) := by decide +kernel
theorem dX7_clear_46 : decode cX7_clear 46 = .ok (.goto (-22), 3) := by decide +kernel
theorem dX7_clear_49 : decode cX7_clear 49 = .ok (.aload_n 0, 1) := by decide +kernel
theorem dX7_clear_50 : decode cX7_clear 50 = .ok (.invokevirtual 276, 3) := by decide +kernel
theorem dX7_clear_53 : decode cX7_clear 53 = .ok (.aload_n 0, 1) := by decide +kernel
theorem dX7_clear_54 : decode cX7_clear 54 = .ok (.aload_n 0, 1) := by decide +kernel
theorem dX7_clear_55 : decode cX7_clear 55 = .ok (.getfield 41, 3) := by decide +kernel
theorem dX7_clear_58 : decode cX7_clear 58 = .ok (.invokevirtual 78, 3) := by decide +kernel
theorem dX7_clear_61 : decode cX7_clear 61 = .ok (.iconst 0, 1) := by decide +kernel
theorem dX7_clear_62 : decode cX7_clear 62 = .ok (.ireturn, 1) := by decide +kernel
theorem dX7_tick_0 : decode cX7_tick 0 = .ok (.iload_n 1, 1) := by decide +kernel
theorem dX7_tick_1 : decode cX7_tick 1 = .ok (.ifCond .lt 22, 3) := by decide +kernel
theorem dX7_tick_4 : decode cX7_tick 4 = .ok (.iload_n 1, 1) := by decide +kernel
theorem dX7_tick_5 : decode cX7_tick 5 = .ok (.ldc_w 279, 3) := by decide +kernel
theorem dX7_tick_8 : decode cX7_tick 8 = .ok (.if_icmp .gt 15, 3) := by decide +kernel
theorem dX7_tick_11 : decode cX7_tick 11 = .ok (.iload_n 1, 1) := by decide +kernel
theorem dX7_tick_12 : decode cX7_tick 12 = .ok (.ldc_w 280, 3) := by decide +kernel
theorem dX7_tick_15 : decode cX7_tick 15 = .ok (.aload_n 0, 1) := by decide +kernel
theorem dX7_tick_16 : decode cX7_tick 16 = .ok (.getfield 125, 3) := by decide +kernel
theorem dX7_tick_19 : decode cX7_tick 19 = .ok (.isub, 1) := by decide +kernel
theorem dX7_tick_20 : decode cX7_tick 20 = .ok (.if_icmp .le 5, 3) := by decide +kernel
theorem dX7_tick_23 : decode cX7_tick 23 = .ok (.iconst (-1), 1) := by decide +kernel
theorem dX7_tick_24 : decode cX7_tick 24 = .ok (.ireturn, 1) := by decide +kernel
theorem dX7_tick_25 : decode cX7_tick 25 = .ok (.aload_n 0, 1) := by decide +kernel
theorem dX7_tick_26 : decode cX7_tick 26 = .ok (.getfield 125, 3) := by decide +kernel
theorem dX7_tick_29 : decode cX7_tick 29 = .ok (.iload_n 1, 1) := by decide +kernel
theorem dX7_tick_30 : decode cX7_tick 30 = .ok (.iadd, 1) := by decide +kernel
theorem dX7_tick_31 : decode cX7_tick 31 = .ok (.istore_n 2, 1) := by decide +kernel
theorem dX7_tick_32 : decode cX7_tick 32 = .ok (.iload_n 2, 1) := by decide +kernel
theorem dX7_tick_33 : decode cX7_tick 33 = .ok (.bipush 100, 2) := by decide +kernel
theorem dX7_tick_35 : decode cX7_tick 35 = .ok (.idiv, 1) := by decide +kernel
theorem dX7_tick_36 : decode cX7_tick 36 = .ok (.aload_n 0, 1) := by decide +kernel
theorem dX7_tick_37 : decode cX7_tick 37 = .ok (.getfield 125, 3) := by decide +kernel
theorem dX7_tick_40 : decode cX7_tick 40 = .ok (.bipush 100, 2) := by decide +kernel
theorem dX7_tick_42 : decode cX7_tick 42 = .ok (.idiv, 1) := by decide +kernel
theorem dX7_tick_43 : decode cX7_tick 43 = .ok (.isub, 1) := by decide +kernel
theorem dX7_tick_44 : decode cX7_tick 44 = .ok (.istore_n 3, 1) := by decide +kernel
theorem dX7_tick_45 : decode cX7_tick 45 = .ok (.aload_n 0, 1) := by decide +kernel
theorem dX7_tick_46 : decode cX7_tick 46 = .ok (.iconst 0, 1) := by decide +kernel
theorem dX7_tick_47 : decode cX7_tick 47 = .ok (.aload_n 0, 1) := by decide +kernel
theorem dX7_tick_48 : decode cX7_tick 48 = .ok (.getfield 270, 3) := by decide +kernel
theorem dX7_tick_51 : decode cX7_tick 51 = .ok (.iload_n 3, 1) := by decide +kernel
theorem dX7_tick_52 : decode cX7_tick 52 = .ok (.isub, 1) := by decide +kernel
theorem dX7_tick_53 : decode cX7_tick 53 = .ok (.invokestatic 281, 3) := by decide +kernel
theorem dX7_tick_56 : decode cX7_tick 56 = .ok (.putfield 270, 3) := by decide +kernel
theorem dX7_tick_59 : decode cX7_tick 59 = .ok (.aload_n 0, 1) := by decide +kernel
theorem dX7_tick_60 : decode cX7_tick 60 = .ok (.iload_n 2, 1) := by decide +kernel
theorem dX7_tick_61 : decode cX7_tick 61 = .ok (.putfield 125, 3) := by decide +kernel
theorem dX7_tick_64 : decode cX7_tick 64 = .ok (.aload_n 0, 1) := by decide +kernel
theorem dX7_tick_65 : decode cX7_tick 65 = .ok (.getfield 125, 3) := by decide +kernel
theorem dX7_tick_68 : decode cX7_tick 68 = .ok (.ireturn, 1) := by decide +kernel
end
section
theorem dX7_restart_0 : decode cX7_restart 0 = .ok (.aload_n 0, 1) := by decide +kernel
theorem dX7_restart_1 : decode cX7_restart 1 = .ok (.dup, 1) := by decide +kernel
theorem dX7_restart_2 : decode cX7_restart 2 = .ok (.getfield 128, 3) := by decide +kernel
theorem dX7_restart_5 : decode cX7_restart 5 = .ok (.iconst 1, 1) := by decide +kernel
theorem dX7_restart_6 : decode cX7_restart 6 = .ok (.iadd, 1) := by decide +kernel
theorem dX7_restart_7 : decode cX7_restart 7 = .ok (.putfield 128, 3) := by decide +kernel
theorem dX7_restart_10 : decode cX7_restart 10 = .ok (.iconst 0, 1) := by decide +kernel
theorem dX7_restart_11 : decode cX7_restart 11 = .ok (.istore_n 1, 1) := by decide +kernel
theorem dX7_restart_12 : decode cX7_restart 12 = .ok (.iload_n 1, 1) := by decide +kernel
theorem dX7_restart_13 : decode cX7_restart 13 = .ok (.bipush 8, 2) := by decide +kernel
theorem dX7_restart_15 : decode cX7_restart 15 = .ok (.if_icmp .ge 17, 3) := by decide +kernel
theorem dX7_restart_18 : decode cX7_restart 18 = .ok (.aload_n 0, 1) := by decide +kernel
theorem dX7_restart_19 : decode cX7_restart 19 = .ok (.getfield 53, 3) := by decide +kernel
theorem dX7_restart_22 : decode cX7_restart 22 = .ok (.iload_n 1, 1) := by decide +kernel
theorem dX7_restart_23 : decode cX7_restart 23 = .ok (.invokevirtual 115, 3) := by decide +kernel
theorem dX7_restart_26 : decode cX7_restart 26 = .ok (.iinc 1 1, 3) := by decide +kernel
theorem dX7_restart_29 : decode cX7_restart 29 = .ok (.goto (-17), 3) := by decide +kernel
theorem dX7_restart_32 : decode cX7_restart 32 = .ok (.iconst 0, 1) := by decide +kernel
theorem dX7_restart_33 : decode cX7_restart 33 = .ok (.istore_n 1, 1) := by decide +kernel
theorem dX7_restart_34 : decode cX7_restart 34 = .ok (.iload_n 1, 1) := by decide +kernel
theorem dX7_restart_35 : decode cX7_restart 35 = .ok (.iconst 4, 1) := by decide +kernel
theorem dX7_restart_36 : decode cX7_restart 36 = .ok (.if_icmp .ge 19, 3) := by decide +kernel
theorem dX7_restart_39 : decode cX7_restart 39 = .ok (.aload_n 0, 1) := by decide +kernel
theorem dX7_restart_40 : decode cX7_restart 40 = .ok (.getfield 59, 3) := by decide +kernel
theorem dX7_restart_43 : decode cX7_restart 43 = .ok (.iload_n 1, 1) := by decide +kernel
theorem dX7_restart_44 : decode cX7_restart 44 = .ok (.aaload, 1) := by decide +kernel
theorem dX7_restart_45 : decode cX7_restart 45 = .ok (.iconst 0, 1) := by decide +kernel
theorem dX7_restart_46 : decode cX7_restart 46 = .ok (.putfield 284, 3) := by decide +kernel
theorem dX7_restart_49 : decode cX7_restart 49 = .ok (.iinc 1 1, 3) := by decide +kernel
theorem dX7_restart_52 : decode cX7_restart 52 = .ok (.goto (-18), 3) := by decide +kernel
theorem dX7_restart_55 : decode cX7_restart 55 = .ok (.aload_n 0, 1) := by decide +kernel
theorem dX7_restart_56 : decode cX7_restart 56 = .ok (.invokevirtual 276, 3) := by decide +kernel
theorem dX7_restart_59 : decode cX7_restart 59 = .ok (.iconst 0, 1) := by decide +kernel
theorem dX7_restart_60 : decode cX7_restart 60 = .ok (.istore_n 1, 1) := by decide +kernel
theorem dX7_restart_61 : decode cX7_restart 61 = .ok (.iload_n 1, 1) := by decide +kernel
theorem dX7_restart_62 : decode cX7_restart 62 = .ok (.bipush 8, 2) := by decide +kernel
theorem dX7_restart_64 : decode cX7_restart 64 = .ok (.if_icmp .ge 19, 3) := by decide +kernel
theorem dX7_restart_67 : decode cX7_restart 67 = .ok (.aload_n 0, 1) := by decide +kernel
theorem dX7_restart_68 : decode cX7_restart 68 = .ok (.getfield 73, 3) := by decide +kernel
theorem dX7_restart_71 : decode cX7_restart 71 = .ok (.iload_n 1, 1) := by decide +kernel
theorem dX7_restart_72 : decode cX7_restart 72 = .ok (.aaload, 1) := by decide +kernel
theorem dX7_restart_73 : decode cX7_restart 73 = .ok (.iconst 0, 1) := by decide +kernel
theorem dX7_restart_74 : decode cX7_restart 74 = .ok (.putfield 263, 3) := by decide +kernel
theorem dX7_restart_77 : decode cX7_restart 77 = .ok (.iinc 1 1, 3) := by decide +kernel
theorem dX7_restart_80 : decode cX7_restart 80 = .ok (.goto (-19), 3) := by decide +kernel
theorem dX7_restart_83 : decode cX7_restart 83 = .ok (.aload_n 0, 1) := by decide +kernel
theorem dX7_restart_84 : decode cX7_restart 84 = .ok (.getfield 128, 3) := by decide +kernel
theorem dX7_restart_87 : decode cX7_restart 87 = .ok (.ireturn, 1) := by decide +kernel
theorem dX7_look_0 : decode cX7_look 0 = .ok (.iload_n 1, 1) := by decide +kernel
theorem dX7_look_1 : decode cX7_look 1 = .ok (.tableswitch 93 0 7 #[47, 52, 57, 62, 70, 75, 80, 85], 47) := by decide +kernel
theorem dX7_look_48 : decode cX7_look 48 = .ok (.aload_n 0, 1) := by decide +kernel
theorem dX7_look_49 : decode cX7_look 49 = .ok (.getfield 270, 3) := by decide +kernel
theorem dX7_look_52 : decode cX7_look 52 = .ok (.ireturn, 1) := by decide +kernel
theorem dX7_look_53 : decode cX7_look 53 = .ok (.aload_n 0, 1) := by decide +kernel
theorem dX7_look_54 : decode cX7_look 54 = .ok (.getfield 125, 3) := by decide +kernel
theorem dX7_look_57 : decode cX7_look 57 = .ok (.ireturn, 1) := by decide +kernel
theorem dX7_look_58 : decode cX7_look 58 = .ok (.aload_n 0, 1) := by decide +kernel
theorem dX7_look_59 : decode cX7_look 59 = .ok (.getfield 128, 3) := by decide +kernel
theorem dX7_look_62 : decode cX7_look 62 = .ok (.ireturn, 1) := by decide +kernel
theorem dX7_look_63 : decode cX7_look 63 = .ok (.aload_n 0, 1) := by decide +kernel
theorem dX7_look_64 : decode cX7_look 64 = .ok (.getfield 21, 3) := by decide +kernel
theorem dX7_look_67 : decode cX7_look 67 = .ok (.getfield 287, 3) := by decide +kernel
theorem dX7_look_70 : decode cX7_look 70 = .ok (.ireturn, 1) := by decide +kernel
theorem dX7_look_71 : decode cX7_look 71 = .ok (.aload_n 0, 1) := by decide +kernel
theorem dX7_look_72 : decode cX7_look 72 = .ok (.invokevirtual 290, 3) := by decide +kernel
theorem dX7_look_75 : decode cX7_look 75 = .ok (.ireturn, 1) := by decide +kernel
theorem dX7_look_76 : decode cX7_look 76 = .ok (.aload_n 0, 1) := by decide +kernel
theorem dX7_look_77 : decode cX7_look 77 = .ok (.invokevirtual 293, 3) := by decide +kernel
theorem dX7_look_80 : decode cX7_look 80 = .ok (.ireturn, 1) := by decide +kernel
theorem dX7_look_81 : decode cX7_look 81 = .ok (.aload_n 0, 1) := by decide +kernel
theorem dX7_look_82 : decode cX7_look 82 = .ok (.invokevirtual 296, 3) := by decide +kernel
theorem dX7_look_85 : decode cX7_look 85 = .ok (.ireturn, 1) := by decide +kernel
theorem dX7_look_86 : decode cX7_look 86 = .ok (.aload_n 0, 1) := by decide +kernel
theorem dX7_look_87 : decode cX7_look 87 = .ok (.getfield 30, 3) := by decide +kernel
theorem dX7_look_90 : decode cX7_look 90 = .ok (.getfield 89, 3) := by decide +kernel
theorem dX7_look_93 : decode cX7_look 93 = .ok (.ireturn, 1) := by decide +kernel
theorem dX7_look_94 : decode cX7_look 94 = .ok (.iconst (-1), 1) := by decide +kernel
theorem dX7_look_95 : decode cX7_look 95 = .ok (.ireturn, 1) := by decide +kernel
theorem dX7_takeTapeHash_0 : decode cX7_takeTapeHash 0 = .ok (.aload_n 0, 1) := by decide +kernel
theorem dX7_takeTapeHash_1 : decode cX7_takeTapeHash 1 = .ok (.getfield 10, 3) := by decide +kernel
theorem dX7_takeTapeHash_4 : decode cX7_takeTapeHash 4 = .ok (.invokevirtual 299, 3) := by decide +kernel
theorem dX7_takeTapeHash_7 : decode cX7_takeTapeHash 7 = .ok (.aload_n 0, 1) := by decide +kernel
theorem dX7_takeTapeHash_8 : decode cX7_takeTapeHash 8 = .ok (.getfield 30, 3) := by decide +kernel
theorem dX7_takeTapeHash_11 : decode cX7_takeTapeHash 11 = .ok (.getfield 93, 3) := by decide +kernel
theorem dX7_takeTapeHash_14 : decode cX7_takeTapeHash 14 = .ok (.aload_n 0, 1) := by decide +kernel
theorem dX7_takeTapeHash_15 : decode cX7_takeTapeHash 15 = .ok (.getfield 30, 3) := by decide +kernel
theorem dX7_takeTapeHash_18 : decode cX7_takeTapeHash 18 = .ok (.getfield 89, 3) := by decide +kernel
theorem dX7_takeTapeHash_21 : decode cX7_takeTapeHash 21 = .ok (.invokevirtual 96, 3) := by decide +kernel
theorem dX7_takeTapeHash_24 : decode cX7_takeTapeHash 24 = .ok (.aload_n 0, 1) := by decide +kernel
theorem dX7_takeTapeHash_25 : decode cX7_takeTapeHash 25 = .ok (.getfield 10, 3) := by decide +kernel
theorem dX7_takeTapeHash_28 : decode cX7_takeTapeHash 28 = .ok (.aload_n 0, 1) := by decide +kernel
theorem dX7_takeTapeHash_29 : decode cX7_takeTapeHash 29 = .ok (.getfield 47, 3) := by decide +kernel
theorem dX7_takeTapeHash_32 : decode cX7_takeTapeHash 32 = .ok (.invokevirtual 149, 3) := by decide +kernel
theorem dX7_takeTapeHash_35 : decode cX7_takeTapeHash 35 = .ok (.aload_n 0, 1) := by decide +kernel
theorem dX7_takeTapeHash_36 : decode cX7_takeTapeHash 36 = .ok (.getfield 30, 3) := by decide +kernel
theorem dX7_takeTapeHash_39 : decode cX7_takeTapeHash 39 = .ok (.iconst 0, 1) := by decide +kernel
theorem dX7_takeTapeHash_40 : decode cX7_takeTapeHash 40 = .ok (.putfield 89, 3) := by decide +kernel
theorem dX7_takeTapeHash_43 : decode cX7_takeTapeHash 43 = .ok (.return_, 1) := by decide +kernel
theorem dX7_hashNothing_0 : decode cX7_hashNothing 0 = .ok (.aload_n 0, 1) := by decide +kernel
theorem dX7_hashNothing_1 : decode cX7_hashNothing 1 = .ok (.getfield 10, 3) := by decide +kernel
theorem dX7_hashNothing_4 : decode cX7_hashNothing 4 = .ok (.invokevirtual 299, 3) := by decide +kernel
theorem dX7_hashNothing_7 : decode cX7_hashNothing 7 = .ok (.pop, 1) := by decide +kernel
theorem dX7_hashNothing_8 : decode cX7_hashNothing 8 = .ok (.aload_n 0, 1) := by decide +kernel
theorem dX7_hashNothing_9 : decode cX7_hashNothing 9 = .ok (.getfield 10, 3) := by decide +kernel
theorem dX7_hashNothing_12 : decode cX7_hashNothing 12 = .ok (.aload_n 1, 1) := by decide +kernel
theorem dX7_hashNothing_13 : decode cX7_hashNothing 13 = .ok (.invokevirtual 149, 3) := by decide +kernel
theorem dX7_hashNothing_16 : decode cX7_hashNothing 16 = .ok (.return_, 1) := by decide +kernel
theorem dX7_tell_0 : decode cX7_tell 0 = .ok (.aload_n 0, 1) := by decide +kernel
theorem dX7_tell_1 : decode cX7_tell 1 = .ok (.getfield 34, 3) := by decide +kernel
theorem dX7_tell_4 : decode cX7_tell 4 = .ok (.iconst 0, 1) := by decide +kernel
theorem dX7_tell_5 : decode cX7_tell 5 = .ok (.putfield 89, 3) := by decide +kernel
theorem dX7_tell_8 : decode cX7_tell 8 = .ok (.aload_n 0, 1) := by decide +kernel
theorem dX7_tell_9 : decode cX7_tell 9 = .ok (.getfield 34, 3) := by decide +kernel
theorem dX7_tell_12 : decode cX7_tell 12 = .ok (.aload_n 1, 1) := by decide +kernel
theorem dX7_tell_13 : decode cX7_tell 13 = .ok (.iload_n 2, 1) := by decide +kernel
theorem dX7_tell_14 : decode cX7_tell 14 = .ok (.invokevirtual 96, 3) := by decide +kernel
theorem dX7_tell_17 : decode cX7_tell 17 = .ok (.aload_n 0, 1) := by decide +kernel
theorem dX7_tell_18 : decode cX7_tell 18 = .ok (.getfield 34, 3) := by decide +kernel
theorem dX7_tell_21 : decode cX7_tell 21 = .ok (.getfield 89, 3) := by decide +kernel
theorem dX7_tell_24 : decode cX7_tell 24 = .ok (.ireturn, 1) := by decide +kernel
theorem dX7_openSession_0 : decode cX7_openSession 0 = .ok (.iload_n 1, 1) := by decide +kernel
theorem dX7_openSession_1 : decode cX7_openSession 1 = .ok (.ifCond .lt 20, 3) := by decide +kernel
theorem dX7_openSession_4 : decode cX7_openSession 4 = .ok (.iload_n 1, 1) := by decide +kernel
theorem dX7_openSession_5 : decode cX7_openSession 5 = .ok (.iconst 4, 1) := by decide +kernel
theorem dX7_openSession_6 : decode cX7_openSession 6 = .ok (.if_icmp .ge 15, 3) := by decide +kernel
theorem dX7_openSession_9 : decode cX7_openSession 9 = .ok (.aload_n 0, 1) := by decide +kernel
theorem dX7_openSession_10 : decode cX7_openSession 10 = .ok (.getfield 59, 3) := by decide +kernel
theorem dX7_openSession_13 : decode cX7_openSession 13 = .ok (.iload_n 1, 1) := by decide +kernel
theorem dX7_openSession_14 : decode cX7_openSession 14 = .ok (.aaload, 1) := by decide +kernel
theorem dX7_openSession_15 : decode cX7_openSession 15 = .ok (.getfield 284, 3) := by decide +kernel
theorem dX7_openSession_18 : decode cX7_openSession 18 = .ok (.ifCond .ne 5, 3) := by decide +kernel
theorem dX7_openSession_21 : decode cX7_openSession 21 = .ok (.aconst_null, 1) := by decide +kernel
theorem dX7_openSession_22 : decode cX7_openSession 22 = .ok (.areturn, 1) := by decide +kernel
theorem dX7_openSession_23 : decode cX7_openSession 23 = .ok (.aload_n 0, 1) := by decide +kernel
theorem dX7_openSession_24 : decode cX7_openSession 24 = .ok (.getfield 59, 3) := by decide +kernel
theorem dX7_openSession_27 : decode cX7_openSession 27 = .ok (.iload_n 1, 1) := by decide +kernel
theorem dX7_openSession_28 : decode cX7_openSession 28 = .ok (.aaload, 1) := by decide +kernel
theorem dX7_openSession_29 : decode cX7_openSession 29 = .ok (.areturn, 1) := by decide +kernel
theorem dX7_objectAt_0 : decode cX7_objectAt 0 = .ok (.iload_n 1, 1) := by decide +kernel
theorem dX7_objectAt_1 : decode cX7_objectAt 1 = .ok (.ifCond .lt 20, 3) := by decide +kernel
theorem dX7_objectAt_4 : decode cX7_objectAt 4 = .ok (.iload_n 1, 1) := by decide +kernel
theorem dX7_objectAt_5 : decode cX7_objectAt 5 = .ok (.iconst 4, 1) := by decide +kernel
theorem dX7_objectAt_6 : decode cX7_objectAt 6 = .ok (.if_icmp .ge 15, 3) := by decide +kernel
theorem dX7_objectAt_9 : decode cX7_objectAt 9 = .ok (.aload_n 0, 1) := by decide +kernel
theorem dX7_objectAt_10 : decode cX7_objectAt 10 = .ok (.getfield 66, 3) := by decide +kernel
theorem dX7_objectAt_13 : decode cX7_objectAt 13 = .ok (.iload_n 1, 1) := by decide +kernel
theorem dX7_objectAt_14 : decode cX7_objectAt 14 = .ok (.aaload, 1) := by decide +kernel
theorem dX7_objectAt_15 : decode cX7_objectAt 15 = .ok (.getfield 199, 3) := by decide +kernel
theorem dX7_objectAt_18 : decode cX7_objectAt 18 = .ok (.ifCond .ne 5, 3) := by decide +kernel
theorem dX7_objectAt_21 : decode cX7_objectAt 21 = .ok (.aconst_null, 1) := by decide +kernel
theorem dX7_objectAt_22 : decode cX7_objectAt 22 = .ok (.areturn, 1) := by decide +kernel
theorem dX7_objectAt_23 : decode cX7_objectAt 23 = .ok (.aload_n 0, 1) := by decide +kernel
theorem dX7_objectAt_24 : decode cX7_objectAt 24 = .ok (.getfield 66, 3) := by decide +kernel
theorem dX7_objectAt_27 : decode cX7_objectAt 27 = .ok (.iload_n 1, 1) := by decide +kernel
theorem dX7_objectAt_28 : decode cX7_objectAt 28 = .ok (.aaload, 1) := by decide +kernel
theorem dX7_objectAt_29 : decode cX7_objectAt 29 = .ok (.areturn, 1) := by decide +kernel
theorem dX7_valueAt_0 : decode cX7_valueAt 0 = .ok (.iload_n 1, 1) := by decide +kernel
theorem dX7_valueAt_1 : decode cX7_valueAt 1 = .ok (.ifCond .lt 24, 3) := by decide +kernel
theorem dX7_valueAt_4 : decode cX7_valueAt 4 = .ok (.iload_n 1, 1) := by decide +kernel
theorem dX7_valueAt_5 : decode cX7_valueAt 5 = .ok (.bipush 8, 2) := by decide +kernel
theorem dX7_valueAt_7 : decode cX7_valueAt 7 = .ok (.if_icmp .ge 18, 3) := by decide +kernel
theorem dX7_valueAt_10 : decode cX7_valueAt 10 = .ok (.aload_n 0, 1) := by decide +kernel
theorem dX7_valueAt_11 : decode cX7_valueAt 11 = .ok (.getfield 73, 3) := by decide +kernel
theorem dX7_valueAt_14 : decode cX7_valueAt 14 = .ok (.iload_n 1, 1) := by decide +kernel
theorem dX7_valueAt_15 : decode cX7_valueAt 15 = .ok (.aaload, 1) := by decide +kernel
theorem dX7_valueAt_16 : decode cX7_valueAt 16 = .ok (.getfield 206, 3) := by decide +kernel
theorem dX7_valueAt_19 : decode cX7_valueAt 19 = .ok (.getfield 199, 3) := by decide +kernel
theorem dX7_valueAt_22 : decode cX7_valueAt 22 = .ok (.ifCond .ne 5, 3) := by decide +kernel
theorem dX7_valueAt_25 : decode cX7_valueAt 25 = .ok (.aconst_null, 1) := by decide +kernel
theorem dX7_valueAt_26 : decode cX7_valueAt 26 = .ok (.areturn, 1) := by decide +kernel
theorem dX7_valueAt_27 : decode cX7_valueAt 27 = .ok (.aload_n 0, 1) := by decide +kernel
theorem dX7_valueAt_28 : decode cX7_valueAt 28 = .ok (.getfield 73, 3) := by decide +kernel
theorem dX7_valueAt_31 : decode cX7_valueAt 31 = .ok (.iload_n 1, 1) := by decide +kernel
theorem dX7_valueAt_32 : decode cX7_valueAt 32 = .ok (.aaload, 1) := by decide +kernel
theorem dX7_valueAt_33 : decode cX7_valueAt 33 = .ok (.areturn, 1) := by decide +kernel
theorem dX7_valueOf_0 : decode cX7_valueOf 0 = .ok (.aload_n 0, 1) := by decide +kernel
theorem dX7_valueOf_1 : decode cX7_valueOf 1 = .ok (.iload_n 1, 1) := by decide +kernel
theorem dX7_valueOf_2 : decode cX7_valueOf 2 = .ok (.invokevirtual 223, 3) := by decide +kernel
theorem dX7_valueOf_5 : decode cX7_valueOf 5 = .ok (.astore_n 3, 1) := by decide +kernel
theorem dX7_valueOf_6 : decode cX7_valueOf 6 = .ok (.aload_n 3, 1) := by decide +kernel
theorem dX7_valueOf_7 : decode cX7_valueOf 7 = .ok (.ifnull 15, 3) := by decide +kernel
theorem dX7_valueOf_10 : decode cX7_valueOf 10 = .ok (.aload_n 3, 1) := by decide +kernel
theorem dX7_valueOf_11 : decode cX7_valueOf 11 = .ok (.getfield 302, 3) := by decide +kernel
theorem dX7_valueOf_14 : decode cX7_valueOf 14 = .ok (.iload_n 2, 1) := by decide +kernel
theorem dX7_valueOf_15 : decode cX7_valueOf 15 = .ok (.if_icmp .ne 7, 3) := by decide +kernel
theorem dX7_valueOf_18 : decode cX7_valueOf 18 = .ok (.aload_n 3, 1) := by decide +kernel
theorem dX7_valueOf_19 : decode cX7_valueOf 19 = .ok (.goto 4, 3) := by decide +kernel
theorem dX7_valueOf_22 : decode cX7_valueOf 22 = .ok (.aconst_null, 1) := by decide +kernel
theorem dX7_valueOf_23 : decode cX7_valueOf 23 = .ok (.areturn, 1) := by decide +kernel
theorem dX7_policyFrom_0 : decode cX7_policyFrom 0 = .ok (.iload_n 1, 1) := by decide +kernel
theorem dX7_policyFrom_1 : decode cX7_policyFrom 1 = .ok (.iconst (-1), 1) := by decide +kernel
theorem dX7_policyFrom_2 : decode cX7_policyFrom 2 = .ok (.if_icmp .ne 8, 3) := by decide +kernel
theorem dX7_policyFrom_5 : decode cX7_policyFrom 5 = .ok (.aload_n 0, 1) := by decide +kernel
theorem dX7_policyFrom_6 : decode cX7_policyFrom 6 = .ok (.getfield 44, 3) := by decide +kernel
theorem dX7_policyFrom_9 : decode cX7_policyFrom 9 = .ok (.areturn, 1) := by decide +kernel
theorem dX7_policyFrom_10 : decode cX7_policyFrom 10 = .ok (.aload_n 0, 1) := by decide +kernel
theorem dX7_policyFrom_11 : decode cX7_policyFrom 11 = .ok (.iload_n 1, 1) := by decide +kernel
theorem dX7_policyFrom_12 : decode cX7_policyFrom 12 = .ok (.invokevirtual 138, 3) := by decide +kernel
theorem dX7_policyFrom_15 : decode cX7_policyFrom 15 = .ok (.astore_n 2, 1) := by decide +kernel
theorem dX7_policyFrom_16 : decode cX7_policyFrom 16 = .ok (.aload_n 2, 1) := by decide +kernel
theorem dX7_policyFrom_17 : decode cX7_policyFrom 17 = .ok (.ifnonnull 7, 3) := by decide +kernel
theorem dX7_policyFrom_20 : decode cX7_policyFrom 20 = .ok (.aconst_null, 1) := by decide +kernel
theorem dX7_policyFrom_21 : decode cX7_policyFrom 21 = .ok (.goto 7, 3) := by decide +kernel
theorem dX7_policyFrom_24 : decode cX7_policyFrom 24 = .ok (.aload_n 2, 1) := by decide +kernel
theorem dX7_policyFrom_25 : decode cX7_policyFrom 25 = .ok (.getfield 146, 3) := by decide +kernel
theorem dX7_policyFrom_28 : decode cX7_policyFrom 28 = .ok (.areturn, 1) := by decide +kernel
theorem dX7_chooseBranch_0 : decode cX7_chooseBranch 0 = .ok (.aload_n 0, 1) := by decide +kernel
theorem dX7_chooseBranch_1 : decode cX7_chooseBranch 1 = .ok (.getfield 30, 3) := by decide +kernel
theorem dX7_chooseBranch_4 : decode cX7_chooseBranch 4 = .ok (.getfield 89, 3) := by decide +kernel
theorem dX7_chooseBranch_7 : decode cX7_chooseBranch 7 = .ok (.bipush 32, 2) := by decide +kernel
theorem dX7_chooseBranch_9 : decode cX7_chooseBranch 9 = .ok (.idiv, 1) := by decide +kernel
theorem dX7_chooseBranch_10 : decode cX7_chooseBranch 10 = .ok (.istore_n 2, 1) := by decide +kernel
theorem dX7_chooseBranch_11 : decode cX7_chooseBranch 11 = .ok (.aload_n 1, 1) := by decide +kernel
theorem dX7_chooseBranch_12 : decode cX7_chooseBranch 12 = .ok (.ifnull 27, 3) := by decide +kernel
theorem dX7_chooseBranch_15 : decode cX7_chooseBranch 15 = .ok (.aload_n 0, 1) := by decide +kernel
theorem dX7_chooseBranch_16 : decode cX7_chooseBranch 16 = .ok (.getfield 30, 3) := by decide +kernel
theorem dX7_chooseBranch_19 : decode cX7_chooseBranch 19 = .ok (.getfield 89, 3) := by decide +kernel
theorem dX7_chooseBranch_22 : decode cX7_chooseBranch 22 = .ok (.bipush 32, 2) := by decide +kernel
theorem dX7_chooseBranch_24 : decode cX7_chooseBranch 24 = .ok (.irem, 1) := by decide +kernel
theorem dX7_chooseBranch_25 : decode cX7_chooseBranch 25 = .ok (.ifCond .ne 14, 3) := by decide +kernel
theorem dX7_chooseBranch_28 : decode cX7_chooseBranch 28 = .ok (.iload_n 2, 1) := by decide +kernel
theorem dX7_chooseBranch_29 : decode cX7_chooseBranch 29 = .ok (.iconst 2, 1) := by decide +kernel
theorem dX7_chooseBranch_30 : decode cX7_chooseBranch 30 = .ok (.if_icmp .lt 9, 3) := by decide +kernel
theorem dX7_chooseBranch_33 : decode cX7_chooseBranch 33 = .ok (.iload_n 2, 1) := by decide +kernel
theorem dX7_chooseBranch_34 : decode cX7_chooseBranch 34 = .ok (.bipush 8, 2) := by decide +kernel
theorem dX7_chooseBranch_36 : decode cX7_chooseBranch 36 = .ok (.if_icmp .le 5, 3) := by decide +kernel
theorem dX7_chooseBranch_39 : decode cX7_chooseBranch 39 = .ok (.iconst (-1), 1) := by decide +kernel
theorem dX7_chooseBranch_40 : decode cX7_chooseBranch 40 = .ok (.ireturn, 1) := by decide +kernel
theorem dX7_chooseBranch_41 : decode cX7_chooseBranch 41 = .ok (.iconst 0, 1) := by decide +kernel
theorem dX7_chooseBranch_42 : decode cX7_chooseBranch 42 = .ok (.istore_n 3, 1) := by decide +kernel
theorem dX7_chooseBranch_43 : decode cX7_chooseBranch 43 = .ok (.iconst 0, 1) := by decide +kernel
theorem dX7_chooseBranch_44 : decode cX7_chooseBranch 44 = .ok (.istore 4, 2) := by decide +kernel
theorem dX7_chooseBranch_46 : decode cX7_chooseBranch 46 = .ok (.iload 4, 2) := by decide +kernel
theorem dX7_chooseBranch_48 : decode cX7_chooseBranch 48 = .ok (.iload_n 2, 1) := by decide +kernel
theorem dX7_chooseBranch_49 : decode cX7_chooseBranch 49 = .ok (.if_icmp .ge 41, 3) := by decide +kernel
theorem dX7_chooseBranch_52 : decode cX7_chooseBranch 52 = .ok (.iload_n 3, 1) := by decide +kernel
theorem dX7_chooseBranch_53 : decode cX7_chooseBranch 53 = .ok (.ifCond .ne 25, 3) := by decide +kernel
theorem dX7_chooseBranch_56 : decode cX7_chooseBranch 56 = .ok (.aload_n 1, 1) := by decide +kernel
theorem dX7_chooseBranch_57 : decode cX7_chooseBranch 57 = .ok (.getfield 146, 3) := by decide +kernel
theorem dX7_chooseBranch_60 : decode cX7_chooseBranch 60 = .ok (.aload_n 0, 1) := by decide +kernel
theorem dX7_chooseBranch_61 : decode cX7_chooseBranch 61 = .ok (.getfield 30, 3) := by decide +kernel
theorem dX7_chooseBranch_64 : decode cX7_chooseBranch 64 = .ok (.getfield 93, 3) := by decide +kernel
theorem dX7_chooseBranch_67 : decode cX7_chooseBranch 67 = .ok (.iload 4, 2) := by decide +kernel
theorem dX7_chooseBranch_69 : decode cX7_chooseBranch 69 = .ok (.bipush 32, 2) := by decide +kernel
theorem dX7_chooseBranch_71 : decode cX7_chooseBranch 71 = .ok (.imul, 1) := by decide +kernel
theorem dX7_chooseBranch_72 : decode cX7_chooseBranch 72 = .ok (.invokestatic 305, 3) := by decide +kernel
theorem dX7_chooseBranch_75 : decode cX7_chooseBranch 75 = .ok (.ifCond .eq 7, 3) := by decide +kernel
theorem dX7_chooseBranch_78 : decode cX7_chooseBranch 78 = .ok (.iconst 1, 1) := by decide +kernel
theorem dX7_chooseBranch_79 : decode cX7_chooseBranch 79 = .ok (.goto 4, 3) := by decide +kernel
theorem dX7_chooseBranch_82 : decode cX7_chooseBranch 82 = .ok (.iconst 0, 1) := by decide +kernel
theorem dX7_chooseBranch_83 : decode cX7_chooseBranch 83 = .ok (.istore_n 3, 1) := by decide +kernel
theorem dX7_chooseBranch_84 : decode cX7_chooseBranch 84 = .ok (.iinc 4 1, 3) := by decide +kernel
theorem dX7_chooseBranch_87 : decode cX7_chooseBranch 87 = .ok (.goto (-41), 3) := by decide +kernel
theorem dX7_chooseBranch_90 : decode cX7_chooseBranch 90 = .ok (.iload_n 3, 1) := by decide +kernel
theorem dX7_chooseBranch_91 : decode cX7_chooseBranch 91 = .ok (.ifCond .ne 6, 3) := by decide +kernel
theorem dX7_chooseBranch_94 : decode cX7_chooseBranch 94 = .ok (.bipush (-7), 2) := by decide +kernel
theorem dX7_chooseBranch_96 : decode cX7_chooseBranch 96 = .ok (.ireturn, 1) := by decide +kernel
theorem dX7_chooseBranch_97 : decode cX7_chooseBranch 97 = .ok (.aload_n 0, 1) := by decide +kernel
theorem dX7_chooseBranch_98 : decode cX7_chooseBranch 98 = .ok (.getfield 10, 3) := by decide +kernel
theorem dX7_chooseBranch_101 : decode cX7_chooseBranch 101 = .ok (.invokevirtual 299, 3) := by decide +kernel
theorem dX7_chooseBranch_104 : decode cX7_chooseBranch 104 = .ok (.astore 4, 2) := by decide +kernel
theorem dX7_chooseBranch_106 : decode cX7_chooseBranch 106 = .ok (.aload 4, 2) := by decide +kernel
theorem dX7_chooseBranch_108 : decode cX7_chooseBranch 108 = .ok (.aload_n 0, 1) := by decide +kernel
theorem dX7_chooseBranch_109 : decode cX7_chooseBranch 109 = .ok (.getfield 44, 3) := by decide +kernel
theorem dX7_chooseBranch_112 : decode cX7_chooseBranch 112 = .ok (.bipush 32, 2) := by decide +kernel
theorem dX7_chooseBranch_114 : decode cX7_chooseBranch 114 = .ok (.invokevirtual 96, 3) := by decide +kernel
theorem dX7_chooseBranch_117 : decode cX7_chooseBranch 117 = .ok (.aload 4, 2) := by decide +kernel
theorem dX7_chooseBranch_119 : decode cX7_chooseBranch 119 = .ok (.iconst 5, 1) := by decide +kernel
theorem dX7_chooseBranch_120 : decode cX7_chooseBranch 120 = .ok (.invokevirtual 122, 3) := by decide +kernel
theorem dX7_chooseBranch_123 : decode cX7_chooseBranch 123 = .ok (.aload 4, 2) := by decide +kernel
theorem dX7_chooseBranch_125 : decode cX7_chooseBranch 125 = .ok (.aload_n 0, 1) := by decide +kernel
theorem dX7_chooseBranch_126 : decode cX7_chooseBranch 126 = .ok (.getfield 30, 3) := by decide +kernel
theorem dX7_chooseBranch_129 : decode cX7_chooseBranch 129 = .ok (.getfield 93, 3) := by decide +kernel
theorem dX7_chooseBranch_132 : decode cX7_chooseBranch 132 = .ok (.aload_n 0, 1) := by decide +kernel
theorem dX7_chooseBranch_133 : decode cX7_chooseBranch 133 = .ok (.getfield 30, 3) := by decide +kernel
theorem dX7_chooseBranch_136 : decode cX7_chooseBranch 136 = .ok (.getfield 89, 3) := by decide +kernel
theorem dX7_chooseBranch_139 : decode cX7_chooseBranch 139 = .ok (.invokevirtual 96, 3) := by decide +kernel
theorem dX7_chooseBranch_142 : decode cX7_chooseBranch 142 = .ok (.aload_n 0, 1) := by decide +kernel
theorem dX7_chooseBranch_143 : decode cX7_chooseBranch 143 = .ok (.getfield 10, 3) := by decide +kernel
theorem dX7_chooseBranch_146 : decode cX7_chooseBranch 146 = .ok (.aload_n 1, 1) := by decide +kernel
theorem dX7_chooseBranch_147 : decode cX7_chooseBranch 147 = .ok (.getfield 146, 3) := by decide +kernel
theorem dX7_chooseBranch_150 : decode cX7_chooseBranch 150 = .ok (.invokevirtual 149, 3) := by decide +kernel
theorem dX7_chooseBranch_153 : decode cX7_chooseBranch 153 = .ok (.iconst 0, 1) := by decide +kernel
theorem dX7_chooseBranch_154 : decode cX7_chooseBranch 154 = .ok (.ireturn, 1) := by decide +kernel
theorem dX7_keepUnwrapped_0 : decode cX7_keepUnwrapped 0 = .ok (.iconst 0, 1) := by decide +kernel
theorem dX7_keepUnwrapped_1 : decode cX7_keepUnwrapped 1 = .ok (.istore_n 1, 1) := by decide +kernel
theorem dX7_keepUnwrapped_2 : decode cX7_keepUnwrapped 2 = .ok (.iload_n 1, 1) := by decide +kernel
theorem dX7_keepUnwrapped_3 : decode cX7_keepUnwrapped 3 = .ok (.iconst 4, 1) := by decide +kernel
theorem dX7_keepUnwrapped_4 : decode cX7_keepUnwrapped 4 = .ok (.if_icmp .ge 116, 3) := by decide +kernel
theorem dX7_keepUnwrapped_7 : decode cX7_keepUnwrapped 7 = .ok (.aload_n 0, 1) := by decide +kernel
theorem dX7_keepUnwrapped_8 : decode cX7_keepUnwrapped 8 = .ok (.getfield 66, 3) := by decide +kernel
theorem dX7_keepUnwrapped_11 : decode cX7_keepUnwrapped 11 = .ok (.iload_n 1, 1) := by decide +kernel
theorem dX7_keepUnwrapped_12 : decode cX7_keepUnwrapped 12 = .ok (.aaload, 1) := by decide +kernel
theorem dX7_keepUnwrapped_13 : decode cX7_keepUnwrapped 13 = .ok (.getfield 199, 3) := by decide +kernel
theorem dX7_keepUnwrapped_16 : decode cX7_keepUnwrapped 16 = .ok (.ifCond .ne 98, 3) := by decide +kernel
theorem dX7_keepUnwrapped_19 : decode cX7_keepUnwrapped 19 = .ok (.aload_n 0, 1) := by decide +kernel
theorem dX7_keepUnwrapped_20 : decode cX7_keepUnwrapped 20 = .ok (.getfield 66, 3) := by decide +kernel
theorem dX7_keepUnwrapped_23 : decode cX7_keepUnwrapped 23 = .ok (.iload_n 1, 1) := by decide +kernel
theorem dX7_keepUnwrapped_24 : decode cX7_keepUnwrapped 24 = .ok (.aaload, 1) := by decide +kernel
theorem dX7_keepUnwrapped_25 : decode cX7_keepUnwrapped 25 = .ok (.astore_n 2, 1) := by decide +kernel
theorem dX7_keepUnwrapped_26 : decode cX7_keepUnwrapped 26 = .ok (.aload_n 2, 1) := by decide +kernel
theorem dX7_keepUnwrapped_27 : decode cX7_keepUnwrapped 27 = .ok (.iconst 1, 1) := by decide +kernel
theorem dX7_keepUnwrapped_28 : decode cX7_keepUnwrapped 28 = .ok (.putfield 199, 3) := by decide +kernel
theorem dX7_keepUnwrapped_31 : decode cX7_keepUnwrapped 31 = .ok (.aload_n 0, 1) := by decide +kernel
theorem dX7_keepUnwrapped_32 : decode cX7_keepUnwrapped 32 = .ok (.getfield 30, 3) := by decide +kernel
theorem dX7_keepUnwrapped_35 : decode cX7_keepUnwrapped 35 = .ok (.getfield 93, 3) := by decide +kernel
theorem dX7_keepUnwrapped_38 : decode cX7_keepUnwrapped 38 = .ok (.iconst 4, 1) := by decide +kernel
theorem dX7_keepUnwrapped_39 : decode cX7_keepUnwrapped 39 = .ok (.aload_n 2, 1) := by decide +kernel
theorem dX7_keepUnwrapped_40 : decode cX7_keepUnwrapped 40 = .ok (.getfield 220, 3) := by decide +kernel
theorem dX7_keepUnwrapped_43 : decode cX7_keepUnwrapped 43 = .ok (.iconst 0, 1) := by decide +kernel
theorem dX7_keepUnwrapped_44 : decode cX7_keepUnwrapped 44 = .ok (.bipush 32, 2) := by decide +kernel
theorem dX7_keepUnwrapped_46 : decode cX7_keepUnwrapped 46 = .ok (.invokestatic 309, 3) := by decide +kernel
theorem dX7_keepUnwrapped_49 : decode cX7_keepUnwrapped 49 = .ok (.aload_n 0, 1) := by decide +kernel
theorem dX7_keepUnwrapped_50 : decode cX7_keepUnwrapped 50 = .ok (.getfield 30, 3) := by decide +kernel
theorem dX7_keepUnwrapped_53 : decode cX7_keepUnwrapped 53 = .ok (.getfield 93, 3) := by decide +kernel
theorem dX7_keepUnwrapped_56 : decode cX7_keepUnwrapped 56 = .ok (.bipush 36, 2) := by decide +kernel
theorem dX7_keepUnwrapped_58 : decode cX7_keepUnwrapped 58 = .ok (.aload_n 2, 1) := by decide +kernel
theorem dX7_keepUnwrapped_59 : decode cX7_keepUnwrapped 59 = .ok (.getfield 217, 3) := by decide +kernel
theorem dX7_keepUnwrapped_62 : decode cX7_keepUnwrapped 62 = .ok (.iconst 0, 1) := by decide +kernel
theorem dX7_keepUnwrapped_63 : decode cX7_keepUnwrapped 63 = .ok (.bipush 32, 2) := by decide +kernel
theorem dX7_keepUnwrapped_65 : decode cX7_keepUnwrapped 65 = .ok (.invokestatic 309, 3) := by decide +kernel
theorem dX7_keepUnwrapped_68 : decode cX7_keepUnwrapped 68 = .ok (.aload_n 2, 1) := by decide +kernel
theorem dX7_keepUnwrapped_69 : decode cX7_keepUnwrapped 69 = .ok (.getfield 196, 3) := by decide +kernel
theorem dX7_keepUnwrapped_72 : decode cX7_keepUnwrapped 72 = .ok (.aload_n 0, 1) := by decide +kernel
theorem dX7_keepUnwrapped_73 : decode cX7_keepUnwrapped 73 = .ok (.getfield 30, 3) := by decide +kernel
theorem dX7_keepUnwrapped_76 : decode cX7_keepUnwrapped 76 = .ok (.getfield 89, 3) := by decide +kernel
theorem dX7_keepUnwrapped_79 : decode cX7_keepUnwrapped 79 = .ok (.bipush 101, 2) := by decide +kernel
theorem dX7_keepUnwrapped_81 : decode cX7_keepUnwrapped 81 = .ok (.isub, 1) := by decide +kernel
theorem dX7_keepUnwrapped_82 : decode cX7_keepUnwrapped 82 = .ok (.putfield 89, 3) := by decide +kernel
theorem dX7_keepUnwrapped_85 : decode cX7_keepUnwrapped 85 = .ok (.aload_n 0, 1) := by decide +kernel
theorem dX7_keepUnwrapped_86 : decode cX7_keepUnwrapped 86 = .ok (.getfield 30, 3) := by decide +kernel
theorem dX7_keepUnwrapped_89 : decode cX7_keepUnwrapped 89 = .ok (.getfield 93, 3) := by decide +kernel
theorem dX7_keepUnwrapped_92 : decode cX7_keepUnwrapped 92 = .ok (.bipush 69, 2) := by decide +kernel
theorem dX7_keepUnwrapped_94 : decode cX7_keepUnwrapped 94 = .ok (.aload_n 2, 1) := by decide +kernel
theorem dX7_keepUnwrapped_95 : decode cX7_keepUnwrapped 95 = .ok (.getfield 196, 3) := by decide +kernel
theorem dX7_keepUnwrapped_98 : decode cX7_keepUnwrapped 98 = .ok (.getfield 93, 3) := by decide +kernel
theorem dX7_keepUnwrapped_101 : decode cX7_keepUnwrapped 101 = .ok (.iconst 0, 1) := by decide +kernel
theorem dX7_keepUnwrapped_102 : decode cX7_keepUnwrapped 102 = .ok (.aload_n 2, 1) := by decide +kernel
theorem dX7_keepUnwrapped_103 : decode cX7_keepUnwrapped 103 = .ok (.getfield 196, 3) := by decide +kernel
theorem dX7_keepUnwrapped_106 : decode cX7_keepUnwrapped 106 = .ok (.getfield 89, 3) := by decide +kernel
theorem dX7_keepUnwrapped_109 : decode cX7_keepUnwrapped 109 = .ok (.invokestatic 309, 3) := by decide +kernel
theorem dX7_keepUnwrapped_112 : decode cX7_keepUnwrapped 112 = .ok (.iload_n 1, 1) := by decide +kernel
theorem dX7_keepUnwrapped_113 : decode cX7_keepUnwrapped 113 = .ok (.ireturn, 1) := by decide +kernel
theorem dX7_keepUnwrapped_114 : decode cX7_keepUnwrapped 114 = .ok (.iinc 1 1, 3) := by decide +kernel
theorem dX7_keepUnwrapped_117 : decode cX7_keepUnwrapped 117 = .ok (.goto (-115), 3) := by decide +kernel
theorem dX7_keepUnwrapped_120 : decode cX7_keepUnwrapped 120 = .ok (.bipush (-3), 2) := by decide +kernel
theorem dX7_keepUnwrapped_122 : decode cX7_keepUnwrapped 122 = .ok (.ireturn, 1) := by decide +kernel
theorem dX7_writeTape_0 : decode cX7_writeTape 0 = .ok (.aload_n 1, 1) := by decide +kernel
theorem dX7_writeTape_1 : decode cX7_writeTape 1 = .ok (.ifnonnull 6, 3) := by decide +kernel
theorem dX7_writeTape_4 : decode cX7_writeTape 4 = .ok (.bipush (-2), 2) := by decide +kernel
theorem dX7_writeTape_6 : decode cX7_writeTape 6 = .ok (.ireturn, 1) := by decide +kernel
theorem dX7_writeTape_7 : decode cX7_writeTape 7 = .ok (.aload_n 1, 1) := by decide +kernel
theorem dX7_writeTape_8 : decode cX7_writeTape 8 = .ok (.getfield 206, 3) := by decide +kernel
theorem dX7_writeTape_11 : decode cX7_writeTape 11 = .ok (.getfield 196, 3) := by decide +kernel
theorem dX7_writeTape_14 : decode cX7_writeTape 14 = .ok (.astore 4, 2) := by decide +kernel
theorem dX7_writeTape_16 : decode cX7_writeTape 16 = .ok (.iload_n 2, 1) := by decide +kernel
theorem dX7_writeTape_17 : decode cX7_writeTape 17 = .ok (.ifCond .lt 29, 3) := by decide +kernel
theorem dX7_writeTape_20 : decode cX7_writeTape 20 = .ok (.iload_n 2, 1) := by decide +kernel
theorem dX7_writeTape_21 : decode cX7_writeTape 21 = .ok (.aload 4, 2) := by decide +kernel
theorem dX7_writeTape_23 : decode cX7_writeTape 23 = .ok (.getfield 89, 3) := by decide +kernel
theorem dX7_writeTape_26 : decode cX7_writeTape 26 = .ok (.if_icmp .gt 20, 3) := by decide +kernel
theorem dX7_writeTape_29 : decode cX7_writeTape 29 = .ok (.aload_n 0, 1) := by decide +kernel
theorem dX7_writeTape_30 : decode cX7_writeTape 30 = .ok (.getfield 30, 3) := by decide +kernel
theorem dX7_writeTape_33 : decode cX7_writeTape 33 = .ok (.getfield 89, 3) := by decide +kernel
theorem dX7_writeTape_36 : decode cX7_writeTape 36 = .ok (.aload 4, 2) := by decide +kernel
theorem dX7_writeTape_38 : decode cX7_writeTape 38 = .ok (.getfield 89, 3) := by decide +kernel
theorem dX7_writeTape_41 : decode cX7_writeTape 41 = .ok (.iload_n 2, 1) := by decide +kernel
theorem dX7_writeTape_42 : decode cX7_writeTape 42 = .ok (.isub, 1) := by decide +kernel
theorem dX7_writeTape_43 : decode cX7_writeTape 43 = .ok (.if_icmp .le 5, 3) := by decide +kernel
theorem dX7_writeTape_46 : decode cX7_writeTape 46 = .ok (.iconst (-1), 1) := by decide +kernel
theorem dX7_writeTape_47 : decode cX7_writeTape 47 = .ok (.ireturn, 1) := by decide +kernel
theorem dX7_writeTape_48 : decode cX7_writeTape 48 = .ok (.aload_n 0, 1) := by decide +kernel
theorem dX7_writeTape_49 : decode cX7_writeTape 49 = .ok (.aload_n 1, 1) := by decide +kernel
theorem dX7_writeTape_50 : decode cX7_writeTape 50 = .ok (.iload_n 3, 1) := by decide +kernel
theorem dX7_writeTape_51 : decode cX7_writeTape 51 = .ok (.iconst 2, 1) := by decide +kernel
theorem dX7_writeTape_52 : decode cX7_writeTape 52 = .ok (.invokevirtual 235, 3) := by decide +kernel
theorem dX7_writeTape_55 : decode cX7_writeTape 55 = .ok (.istore 5, 2) := by decide +kernel
theorem dX7_writeTape_57 : decode cX7_writeTape 57 = .ok (.iload 5, 2) := by decide +kernel
theorem dX7_writeTape_59 : decode cX7_writeTape 59 = .ok (.ifCond .eq 6, 3) := by decide +kernel
theorem dX7_writeTape_62 : decode cX7_writeTape 62 = .ok (.iload 5, 2) := by decide +kernel
theorem dX7_writeTape_64 : decode cX7_writeTape 64 = .ok (.ireturn, 1) := by decide +kernel
theorem dX7_writeTape_65 : decode cX7_writeTape 65 = .ok (.aload_n 0, 1) := by decide +kernel
theorem dX7_writeTape_66 : decode cX7_writeTape 66 = .ok (.getfield 30, 3) := by decide +kernel
theorem dX7_writeTape_69 : decode cX7_writeTape 69 = .ok (.getfield 93, 3) := by decide +kernel
theorem dX7_writeTape_72 : decode cX7_writeTape 72 = .ok (.iconst 0, 1) := by decide +kernel
theorem dX7_writeTape_73 : decode cX7_writeTape 73 = .ok (.aload 4, 2) := by decide +kernel
theorem dX7_writeTape_75 : decode cX7_writeTape 75 = .ok (.getfield 93, 3) := by decide +kernel
theorem dX7_writeTape_78 : decode cX7_writeTape 78 = .ok (.iload_n 2, 1) := by decide +kernel
theorem dX7_writeTape_79 : decode cX7_writeTape 79 = .ok (.aload_n 0, 1) := by decide +kernel
theorem dX7_writeTape_80 : decode cX7_writeTape 80 = .ok (.getfield 30, 3) := by decide +kernel
theorem dX7_writeTape_83 : decode cX7_writeTape 83 = .ok (.getfield 89, 3) := by decide +kernel
theorem dX7_writeTape_86 : decode cX7_writeTape 86 = .ok (.invokestatic 309, 3) := by decide +kernel
theorem dX7_writeTape_89 : decode cX7_writeTape 89 = .ok (.aload_n 1, 1) := by decide +kernel
theorem dX7_writeTape_90 : decode cX7_writeTape 90 = .ok (.iconst 1, 1) := by decide +kernel
theorem dX7_writeTape_91 : decode cX7_writeTape 91 = .ok (.putfield 238, 3) := by decide +kernel
theorem dX7_writeTape_94 : decode cX7_writeTape 94 = .ok (.iconst 0, 1) := by decide +kernel
theorem dX7_writeTape_95 : decode cX7_writeTape 95 = .ok (.ireturn, 1) := by decide +kernel
theorem dX7_chainTape_0 : decode cX7_chainTape 0 = .ok (.aload_n 1, 1) := by decide +kernel
theorem dX7_chainTape_1 : decode cX7_chainTape 1 = .ok (.ifnonnull 6, 3) := by decide +kernel
theorem dX7_chainTape_4 : decode cX7_chainTape 4 = .ok (.bipush (-2), 2) := by decide +kernel
theorem dX7_chainTape_6 : decode cX7_chainTape 6 = .ok (.ireturn, 1) := by decide +kernel
theorem dX7_chainTape_7 : decode cX7_chainTape 7 = .ok (.aload_n 0, 1) := by decide +kernel
theorem dX7_chainTape_8 : decode cX7_chainTape 8 = .ok (.aload_n 1, 1) := by decide +kernel
theorem dX7_chainTape_9 : decode cX7_chainTape 9 = .ok (.iload_n 2, 1) := by decide +kernel
theorem dX7_chainTape_10 : decode cX7_chainTape 10 = .ok (.iconst 4, 1) := by decide +kernel
theorem dX7_chainTape_11 : decode cX7_chainTape 11 = .ok (.invokevirtual 235, 3) := by decide +kernel
theorem dX7_chainTape_14 : decode cX7_chainTape 14 = .ok (.istore_n 3, 1) := by decide +kernel
theorem dX7_chainTape_15 : decode cX7_chainTape 15 = .ok (.iload_n 3, 1) := by decide +kernel
theorem dX7_chainTape_16 : decode cX7_chainTape 16 = .ok (.ifCond .eq 5, 3) := by decide +kernel
theorem dX7_chainTape_19 : decode cX7_chainTape 19 = .ok (.iload_n 3, 1) := by decide +kernel
theorem dX7_chainTape_20 : decode cX7_chainTape 20 = .ok (.ireturn, 1) := by decide +kernel
theorem dX7_chainTape_21 : decode cX7_chainTape 21 = .ok (.aload_n 1, 1) := by decide +kernel
theorem dX7_chainTape_22 : decode cX7_chainTape 22 = .ok (.getfield 206, 3) := by decide +kernel
theorem dX7_chainTape_25 : decode cX7_chainTape 25 = .ok (.getfield 196, 3) := by decide +kernel
theorem dX7_chainTape_28 : decode cX7_chainTape 28 = .ok (.getfield 93, 3) := by decide +kernel
theorem dX7_chainTape_31 : decode cX7_chainTape 31 = .ok (.astore 4, 2) := by decide +kernel
theorem dX7_chainTape_33 : decode cX7_chainTape 33 = .ok (.aload_n 0, 1) := by decide +kernel
theorem dX7_chainTape_34 : decode cX7_chainTape 34 = .ok (.getfield 10, 3) := by decide +kernel
theorem dX7_chainTape_37 : decode cX7_chainTape 37 = .ok (.invokevirtual 299, 3) := by decide +kernel
theorem dX7_chainTape_40 : decode cX7_chainTape 40 = .ok (.astore 5, 2) := by decide +kernel
theorem dX7_chainTape_42 : decode cX7_chainTape 42 = .ok (.aload 5, 2) := by decide +kernel
theorem dX7_chainTape_44 : decode cX7_chainTape 44 = .ok (.aload 4, 2) := by decide +kernel
theorem dX7_chainTape_46 : decode cX7_chainTape 46 = .ok (.bipush 32, 2) := by decide +kernel
theorem dX7_chainTape_48 : decode cX7_chainTape 48 = .ok (.invokevirtual 96, 3) := by decide +kernel
theorem dX7_chainTape_51 : decode cX7_chainTape 51 = .ok (.aload 5, 2) := by decide +kernel
theorem dX7_chainTape_53 : decode cX7_chainTape 53 = .ok (.aload_n 0, 1) := by decide +kernel
theorem dX7_chainTape_54 : decode cX7_chainTape 54 = .ok (.getfield 30, 3) := by decide +kernel
theorem dX7_chainTape_57 : decode cX7_chainTape 57 = .ok (.getfield 93, 3) := by decide +kernel
theorem dX7_chainTape_60 : decode cX7_chainTape 60 = .ok (.aload_n 0, 1) := by decide +kernel
theorem dX7_chainTape_61 : decode cX7_chainTape 61 = .ok (.getfield 30, 3) := by decide +kernel
theorem dX7_chainTape_64 : decode cX7_chainTape 64 = .ok (.getfield 89, 3) := by decide +kernel
theorem dX7_chainTape_67 : decode cX7_chainTape 67 = .ok (.invokevirtual 96, 3) := by decide +kernel
theorem dX7_chainTape_70 : decode cX7_chainTape 70 = .ok (.aload_n 0, 1) := by decide +kernel
theorem dX7_chainTape_71 : decode cX7_chainTape 71 = .ok (.getfield 10, 3) := by decide +kernel
theorem dX7_chainTape_74 : decode cX7_chainTape 74 = .ok (.aload 4, 2) := by decide +kernel
theorem dX7_chainTape_76 : decode cX7_chainTape 76 = .ok (.invokevirtual 149, 3) := by decide +kernel
theorem dX7_chainTape_79 : decode cX7_chainTape 79 = .ok (.aload_n 1, 1) := by decide +kernel
theorem dX7_chainTape_80 : decode cX7_chainTape 80 = .ok (.iconst 1, 1) := by decide +kernel
theorem dX7_chainTape_81 : decode cX7_chainTape 81 = .ok (.putfield 238, 3) := by decide +kernel
theorem dX7_chainTape_84 : decode cX7_chainTape 84 = .ok (.iconst 0, 1) := by decide +kernel
theorem dX7_chainTape_85 : decode cX7_chainTape 85 = .ok (.ireturn, 1) := by decide +kernel
theorem dX7_askToChange_0 : decode cX7_askToChange 0 = .ok (.aload_n 1, 1) := by decide +kernel
theorem dX7_askToChange_1 : decode cX7_askToChange 1 = .ok (.getfield 263, 3) := by decide +kernel
theorem dX7_askToChange_4 : decode cX7_askToChange 4 = .ok (.ifCond .eq 6, 3) := by decide +kernel
theorem dX7_askToChange_7 : decode cX7_askToChange 7 = .ok (.bipush (-3), 2) := by decide +kernel
theorem dX7_askToChange_9 : decode cX7_askToChange 9 = .ok (.ireturn, 1) := by decide +kernel
theorem dX7_askToChange_10 : decode cX7_askToChange 10 = .ok (.aload_n 0, 1) := by decide +kernel
theorem dX7_askToChange_11 : decode cX7_askToChange 11 = .ok (.aload_n 1, 1) := by decide +kernel
theorem dX7_askToChange_12 : decode cX7_askToChange 12 = .ok (.getfield 206, 3) := by decide +kernel
theorem dX7_askToChange_15 : decode cX7_askToChange 15 = .ok (.iload_n 2, 1) := by decide +kernel
theorem dX7_askToChange_16 : decode cX7_askToChange 16 = .ok (.iload_n 3, 1) := by decide +kernel
theorem dX7_askToChange_17 : decode cX7_askToChange 17 = .ok (.invokevirtual 192, 3) := by decide +kernel
theorem dX7_askToChange_20 : decode cX7_askToChange 20 = .ok (.ireturn, 1) := by decide +kernel
theorem dX7_ask_0 : decode cX7_ask 0 = .ok (.iload_n 2, 1) := by decide +kernel
theorem dX7_ask_1 : decode cX7_ask 1 = .ok (.iconst (-1), 1) := by decide +kernel
theorem dX7_ask_2 : decode cX7_ask 2 = .ok (.if_icmp .ne 12, 3) := by decide +kernel
theorem dX7_ask_5 : decode cX7_ask 5 = .ok (.aload_n 0, 1) := by decide +kernel
theorem dX7_ask_6 : decode cX7_ask 6 = .ok (.aload_n 1, 1) := by decide +kernel
theorem dX7_ask_7 : decode cX7_ask 7 = .ok (.getfield 217, 3) := by decide +kernel
theorem dX7_ask_10 : decode cX7_ask 10 = .ok (.invokevirtual 210, 3) := by decide +kernel
theorem dX7_ask_13 : decode cX7_ask 13 = .ok (.ireturn, 1) := by decide +kernel
theorem dX7_ask_14 : decode cX7_ask 14 = .ok (.aload_n 0, 1) := by decide +kernel
theorem dX7_ask_15 : decode cX7_ask 15 = .ok (.iload_n 2, 1) := by decide +kernel
theorem dX7_ask_16 : decode cX7_ask 16 = .ok (.invokevirtual 138, 3) := by decide +kernel
theorem dX7_ask_19 : decode cX7_ask 19 = .ok (.astore 4, 2) := by decide +kernel
theorem dX7_ask_21 : decode cX7_ask 21 = .ok (.aload 4, 2) := by decide +kernel
theorem dX7_ask_23 : decode cX7_ask 23 = .ok (.ifnonnull 5, 3) := by decide +kernel
theorem dX7_ask_26 : decode cX7_ask 26 = .ok (.iconst (-1), 1) := by decide +kernel
theorem dX7_ask_27 : decode cX7_ask 27 = .ok (.ireturn, 1) := by decide +kernel
theorem dX7_ask_28 : decode cX7_ask 28 = .ok (.aload_n 1, 1) := by decide +kernel
theorem dX7_ask_29 : decode cX7_ask 29 = .ok (.getfield 220, 3) := by decide +kernel
theorem dX7_ask_32 : decode cX7_ask 32 = .ok (.aload_n 0, 1) := by decide +kernel
theorem dX7_ask_33 : decode cX7_ask 33 = .ok (.getfield 44, 3) := by decide +kernel
theorem dX7_ask_36 : decode cX7_ask 36 = .ok (.invokestatic 266, 3) := by decide +kernel
theorem dX7_ask_39 : decode cX7_ask 39 = .ok (.ifCond .ne 38, 3) := by decide +kernel
theorem dX7_ask_42 : decode cX7_ask 42 = .ok (.aload_n 1, 1) := by decide +kernel
theorem dX7_ask_43 : decode cX7_ask 43 = .ok (.getfield 220, 3) := by decide +kernel
theorem dX7_ask_46 : decode cX7_ask 46 = .ok (.aload 4, 2) := by decide +kernel
theorem dX7_ask_48 : decode cX7_ask 48 = .ok (.getfield 146, 3) := by decide +kernel
theorem dX7_ask_51 : decode cX7_ask 51 = .ok (.invokestatic 266, 3) := by decide +kernel
theorem dX7_ask_54 : decode cX7_ask 54 = .ok (.ifCond .eq 23, 3) := by decide +kernel
theorem dX7_ask_57 : decode cX7_ask 57 = .ok (.aload 4, 2) := by decide +kernel
theorem dX7_ask_59 : decode cX7_ask 59 = .ok (.aload_n 0, 1) := by decide +kernel
theorem dX7_ask_60 : decode cX7_ask 60 = .ok (.getfield 53, 3) := by decide +kernel
theorem dX7_ask_63 : decode cX7_ask 63 = .ok (.getfield 152, 3) := by decide +kernel
theorem dX7_ask_66 : decode cX7_ask 66 = .ok (.iload_n 3, 1) := by decide +kernel
theorem dX7_ask_67 : decode cX7_ask 67 = .ok (.aload_n 0, 1) := by decide +kernel
theorem dX7_ask_68 : decode cX7_ask 68 = .ok (.getfield 125, 3) := by decide +kernel
theorem dX7_ask_71 : decode cX7_ask 71 = .ok (.invokevirtual 315, 3) := by decide +kernel
theorem dX7_ask_74 : decode cX7_ask 74 = .ok (.ifCond .ne 6, 3) := by decide +kernel
theorem dX7_ask_77 : decode cX7_ask 77 = .ok (.bipush (-7), 2) := by decide +kernel
theorem dX7_ask_79 : decode cX7_ask 79 = .ok (.ireturn, 1) := by decide +kernel
theorem dX7_ask_80 : decode cX7_ask 80 = .ok (.aload 4, 2) := by decide +kernel
theorem dX7_ask_82 : decode cX7_ask 82 = .ok (.getfield 158, 3) := by decide +kernel
theorem dX7_ask_85 : decode cX7_ask 85 = .ok (.ifCond .eq 21, 3) := by decide +kernel
theorem dX7_ask_88 : decode cX7_ask 88 = .ok (.aload_n 0, 1) := by decide +kernel
theorem dX7_ask_89 : decode cX7_ask 89 = .ok (.aload_n 1, 1) := by decide +kernel
theorem dX7_ask_90 : decode cX7_ask 90 = .ok (.getfield 217, 3) := by decide +kernel
theorem dX7_ask_93 : decode cX7_ask 93 = .ok (.invokevirtual 210, 3) := by decide +kernel
theorem dX7_ask_96 : decode cX7_ask 96 = .ok (.istore 5, 2) := by decide +kernel
theorem dX7_ask_98 : decode cX7_ask 98 = .ok (.iload 5, 2) := by decide +kernel
theorem dX7_ask_100 : decode cX7_ask 100 = .ok (.ifCond .eq 6, 3) := by decide +kernel
theorem dX7_ask_103 : decode cX7_ask 103 = .ok (.iload 5, 2) := by decide +kernel
theorem dX7_ask_105 : decode cX7_ask 105 = .ok (.ireturn, 1) := by decide +kernel
theorem dX7_ask_106 : decode cX7_ask 106 = .ok (.aload 4, 2) := by decide +kernel
theorem dX7_ask_108 : decode cX7_ask 108 = .ok (.iconst 0, 1) := by decide +kernel
theorem dX7_ask_109 : decode cX7_ask 109 = .ok (.putfield 284, 3) := by decide +kernel
theorem dX7_ask_112 : decode cX7_ask 112 = .ok (.iconst 0, 1) := by decide +kernel
theorem dX7_ask_113 : decode cX7_ask 113 = .ok (.ireturn, 1) := by decide +kernel
theorem dX7_askKey_0 : decode cX7_askKey 0 = .ok (.aload_n 0, 1) := by decide +kernel
theorem dX7_askKey_1 : decode cX7_askKey 1 = .ok (.getfield 270, 3) := by decide +kernel
theorem dX7_askKey_4 : decode cX7_askKey 4 = .ok (.iconst 4, 1) := by decide +kernel
theorem dX7_askKey_5 : decode cX7_askKey 5 = .ok (.if_icmp .lt 6, 3) := by decide +kernel
theorem dX7_askKey_8 : decode cX7_askKey 8 = .ok (.bipush (-5), 2) := by decide +kernel
theorem dX7_askKey_10 : decode cX7_askKey 10 = .ok (.ireturn, 1) := by decide +kernel
theorem dX7_askKey_11 : decode cX7_askKey 11 = .ok (.aload_n 0, 1) := by decide +kernel
theorem dX7_askKey_12 : decode cX7_askKey 12 = .ok (.getfield 37, 3) := by decide +kernel
theorem dX7_askKey_15 : decode cX7_askKey 15 = .ok (.aload_n 1, 1) := by decide +kernel
theorem dX7_askKey_16 : decode cX7_askKey 16 = .ok (.invokestatic 266, 3) := by decide +kernel
theorem dX7_askKey_19 : decode cX7_askKey 19 = .ok (.ifCond .ne 16, 3) := by decide +kernel
theorem dX7_askKey_22 : decode cX7_askKey 22 = .ok (.aload_n 0, 1) := by decide +kernel
theorem dX7_askKey_23 : decode cX7_askKey 23 = .ok (.dup, 1) := by decide +kernel
theorem dX7_askKey_24 : decode cX7_askKey 24 = .ok (.getfield 270, 3) := by decide +kernel
theorem dX7_askKey_27 : decode cX7_askKey 27 = .ok (.iconst 1, 1) := by decide +kernel
theorem dX7_askKey_28 : decode cX7_askKey 28 = .ok (.iadd, 1) := by decide +kernel
theorem dX7_askKey_29 : decode cX7_askKey 29 = .ok (.putfield 270, 3) := by decide +kernel
theorem dX7_askKey_32 : decode cX7_askKey 32 = .ok (.bipush (-4), 2) := by decide +kernel
theorem dX7_askKey_34 : decode cX7_askKey 34 = .ok (.ireturn, 1) := by decide +kernel
theorem dX7_askKey_35 : decode cX7_askKey 35 = .ok (.iconst 0, 1) := by decide +kernel
theorem dX7_askKey_36 : decode cX7_askKey 36 = .ok (.ireturn, 1) := by decide +kernel
theorem dX7_freeObjects_0 : decode cX7_freeObjects 0 = .ok (.iconst 0, 1) := by decide +kernel
theorem dX7_freeObjects_1 : decode cX7_freeObjects 1 = .ok (.istore_n 1, 1) := by decide +kernel
theorem dX7_freeObjects_2 : decode cX7_freeObjects 2 = .ok (.iload_n 1, 1) := by decide +kernel
theorem dX7_freeObjects_3 : decode cX7_freeObjects 3 = .ok (.iconst 4, 1) := by decide +kernel
theorem dX7_freeObjects_4 : decode cX7_freeObjects 4 = .ok (.if_icmp .ge 19, 3) := by decide +kernel
theorem dX7_freeObjects_7 : decode cX7_freeObjects 7 = .ok (.aload_n 0, 1) := by decide +kernel
theorem dX7_freeObjects_8 : decode cX7_freeObjects 8 = .ok (.getfield 66, 3) := by decide +kernel
theorem dX7_freeObjects_11 : decode cX7_freeObjects 11 = .ok (.iload_n 1, 1) := by decide +kernel
theorem dX7_freeObjects_12 : decode cX7_freeObjects 12 = .ok (.aaload, 1) := by decide +kernel
theorem dX7_freeObjects_13 : decode cX7_freeObjects 13 = .ok (.iconst 0, 1) := by decide +kernel
theorem dX7_freeObjects_14 : decode cX7_freeObjects 14 = .ok (.putfield 199, 3) := by decide +kernel
theorem dX7_freeObjects_17 : decode cX7_freeObjects 17 = .ok (.iinc 1 1, 3) := by decide +kernel
theorem dX7_freeObjects_20 : decode cX7_freeObjects 20 = .ok (.goto (-18), 3) := by decide +kernel
theorem dX7_freeObjects_23 : decode cX7_freeObjects 23 = .ok (.return_, 1) := by decide +kernel
theorem dX7_objectsHeld_0 : decode cX7_objectsHeld 0 = .ok (.iconst 0, 1) := by decide +kernel
theorem dX7_objectsHeld_1 : decode cX7_objectsHeld 1 = .ok (.istore_n 1, 1) := by decide +kernel
theorem dX7_objectsHeld_2 : decode cX7_objectsHeld 2 = .ok (.iconst 0, 1) := by decide +kernel
theorem dX7_objectsHeld_3 : decode cX7_objectsHeld 3 = .ok (.istore_n 2, 1) := by decide +kernel
theorem dX7_objectsHeld_4 : decode cX7_objectsHeld 4 = .ok (.iload_n 2, 1) := by decide +kernel
theorem dX7_objectsHeld_5 : decode cX7_objectsHeld 5 = .ok (.iconst 4, 1) := by decide +kernel
theorem dX7_objectsHeld_6 : decode cX7_objectsHeld 6 = .ok (.if_icmp .ge 29, 3) := by decide +kernel
theorem dX7_objectsHeld_9 : decode cX7_objectsHeld 9 = .ok (.iload_n 1, 1) := by decide +kernel
theorem dX7_objectsHeld_10 : decode cX7_objectsHeld 10 = .ok (.aload_n 0, 1) := by decide +kernel
theorem dX7_objectsHeld_11 : decode cX7_objectsHeld 11 = .ok (.getfield 66, 3) := by decide +kernel
theorem dX7_objectsHeld_14 : decode cX7_objectsHeld 14 = .ok (.iload_n 2, 1) := by decide +kernel
theorem dX7_objectsHeld_15 : decode cX7_objectsHeld 15 = .ok (.aaload, 1) := by decide +kernel
theorem dX7_objectsHeld_16 : decode cX7_objectsHeld 16 = .ok (.getfield 199, 3) := by decide +kernel
theorem dX7_objectsHeld_19 : decode cX7_objectsHeld 19 = .ok (.ifCond .eq 7, 3) := by decide +kernel
theorem dX7_objectsHeld_22 : decode cX7_objectsHeld 22 = .ok (.iconst 1, 1) := by decide +kernel
theorem dX7_objectsHeld_23 : decode cX7_objectsHeld 23 = .ok (.goto 4, 3) := by decide +kernel
theorem dX7_objectsHeld_26 : decode cX7_objectsHeld 26 = .ok (.iconst 0, 1) := by decide +kernel
theorem dX7_objectsHeld_27 : decode cX7_objectsHeld 27 = .ok (.iadd, 1) := by decide +kernel
theorem dX7_objectsHeld_28 : decode cX7_objectsHeld 28 = .ok (.istore_n 1, 1) := by decide +kernel
theorem dX7_objectsHeld_29 : decode cX7_objectsHeld 29 = .ok (.iinc 2 1, 3) := by decide +kernel
theorem dX7_objectsHeld_32 : decode cX7_objectsHeld 32 = .ok (.goto (-28), 3) := by decide +kernel
theorem dX7_objectsHeld_35 : decode cX7_objectsHeld 35 = .ok (.iload_n 1, 1) := by decide +kernel
theorem dX7_objectsHeld_36 : decode cX7_objectsHeld 36 = .ok (.ireturn, 1) := by decide +kernel
theorem dX7_sessionsOpen_0 : decode cX7_sessionsOpen 0 = .ok (.iconst 0, 1) := by decide +kernel
theorem dX7_sessionsOpen_1 : decode cX7_sessionsOpen 1 = .ok (.istore_n 1, 1) := by decide +kernel
theorem dX7_sessionsOpen_2 : decode cX7_sessionsOpen 2 = .ok (.iconst 0, 1) := by decide +kernel
theorem dX7_sessionsOpen_3 : decode cX7_sessionsOpen 3 = .ok (.istore_n 2, 1) := by decide +kernel
theorem dX7_sessionsOpen_4 : decode cX7_sessionsOpen 4 = .ok (.iload_n 2, 1) := by decide +kernel
theorem dX7_sessionsOpen_5 : decode cX7_sessionsOpen 5 = .ok (.iconst 4, 1) := by decide +kernel
theorem dX7_sessionsOpen_6 : decode cX7_sessionsOpen 6 = .ok (.if_icmp .ge 29, 3) := by decide +kernel
theorem dX7_sessionsOpen_9 : decode cX7_sessionsOpen 9 = .ok (.iload_n 1, 1) := by decide +kernel
theorem dX7_sessionsOpen_10 : decode cX7_sessionsOpen 10 = .ok (.aload_n 0, 1) := by decide +kernel
theorem dX7_sessionsOpen_11 : decode cX7_sessionsOpen 11 = .ok (.getfield 59, 3) := by decide +kernel
theorem dX7_sessionsOpen_14 : decode cX7_sessionsOpen 14 = .ok (.iload_n 2, 1) := by decide +kernel
theorem dX7_sessionsOpen_15 : decode cX7_sessionsOpen 15 = .ok (.aaload, 1) := by decide +kernel
theorem dX7_sessionsOpen_16 : decode cX7_sessionsOpen 16 = .ok (.getfield 284, 3) := by decide +kernel
theorem dX7_sessionsOpen_19 : decode cX7_sessionsOpen 19 = .ok (.ifCond .eq 7, 3) := by decide +kernel
theorem dX7_sessionsOpen_22 : decode cX7_sessionsOpen 22 = .ok (.iconst 1, 1) := by decide +kernel
theorem dX7_sessionsOpen_23 : decode cX7_sessionsOpen 23 = .ok (.goto 4, 3) := by decide +kernel
theorem dX7_sessionsOpen_26 : decode cX7_sessionsOpen 26 = .ok (.iconst 0, 1) := by decide +kernel
theorem dX7_sessionsOpen_27 : decode cX7_sessionsOpen 27 = .ok (.iadd, 1) := by decide +kernel
theorem dX7_sessionsOpen_28 : decode cX7_sessionsOpen 28 = .ok (.istore_n 1, 1) := by decide +kernel
theorem dX7_sessionsOpen_29 : decode cX7_sessionsOpen 29 = .ok (.iinc 2 1, 3) := by decide +kernel
theorem dX7_sessionsOpen_32 : decode cX7_sessionsOpen 32 = .ok (.goto (-28), 3) := by decide +kernel
theorem dX7_sessionsOpen_35 : decode cX7_sessionsOpen 35 = .ok (.iload_n 1, 1) := by decide +kernel
theorem dX7_sessionsOpen_36 : decode cX7_sessionsOpen 36 = .ok (.ireturn, 1) := by decide +kernel
theorem dX7_valuesDefined_0 : decode cX7_valuesDefined 0 = .ok (.iconst 0, 1) := by decide +kernel
theorem dX7_valuesDefined_1 : decode cX7_valuesDefined 1 = .ok (.istore_n 1, 1) := by decide +kernel
theorem dX7_valuesDefined_2 : decode cX7_valuesDefined 2 = .ok (.iconst 0, 1) := by decide +kernel
theorem dX7_valuesDefined_3 : decode cX7_valuesDefined 3 = .ok (.istore_n 2, 1) := by decide +kernel
theorem dX7_valuesDefined_4 : decode cX7_valuesDefined 4 = .ok (.iload_n 2, 1) := by decide +kernel
theorem dX7_valuesDefined_5 : decode cX7_valuesDefined 5 = .ok (.bipush 8, 2) := by decide +kernel
theorem dX7_valuesDefined_7 : decode cX7_valuesDefined 7 = .ok (.if_icmp .ge 32, 3) := by decide +kernel
theorem dX7_valuesDefined_10 : decode cX7_valuesDefined 10 = .ok (.iload_n 1, 1) := by decide +kernel
theorem dX7_valuesDefined_11 : decode cX7_valuesDefined 11 = .ok (.aload_n 0, 1) := by decide +kernel
theorem dX7_valuesDefined_12 : decode cX7_valuesDefined 12 = .ok (.getfield 73, 3) := by decide +kernel
theorem dX7_valuesDefined_15 : decode cX7_valuesDefined 15 = .ok (.iload_n 2, 1) := by decide +kernel
theorem dX7_valuesDefined_16 : decode cX7_valuesDefined 16 = .ok (.aaload, 1) := by decide +kernel
theorem dX7_valuesDefined_17 : decode cX7_valuesDefined 17 = .ok (.getfield 206, 3) := by decide +kernel
theorem dX7_valuesDefined_20 : decode cX7_valuesDefined 20 = .ok (.getfield 199, 3) := by decide +kernel
theorem dX7_valuesDefined_23 : decode cX7_valuesDefined 23 = .ok (.ifCond .eq 7, 3) := by decide +kernel
theorem dX7_valuesDefined_26 : decode cX7_valuesDefined 26 = .ok (.iconst 1, 1) := by decide +kernel
theorem dX7_valuesDefined_27 : decode cX7_valuesDefined 27 = .ok (.goto 4, 3) := by decide +kernel
theorem dX7_valuesDefined_30 : decode cX7_valuesDefined 30 = .ok (.iconst 0, 1) := by decide +kernel
theorem dX7_valuesDefined_31 : decode cX7_valuesDefined 31 = .ok (.iadd, 1) := by decide +kernel
theorem dX7_valuesDefined_32 : decode cX7_valuesDefined 32 = .ok (.istore_n 1, 1) := by decide +kernel
theorem dX7_valuesDefined_33 : decode cX7_valuesDefined 33 = .ok (.iinc 2 1, 3) := by decide +kernel
theorem dX7_valuesDefined_36 : decode cX7_valuesDefined 36 = .ok (.goto (-32), 3) := by decide +kernel
theorem dX7_valuesDefined_39 : decode cX7_valuesDefined 39 = .ok (.iload_n 1, 1) := by decide +kernel
theorem dX7_valuesDefined_40 : decode cX7_valuesDefined 40 = .ok (.ireturn, 1) := by decide +kernel
theorem dX7_copyDigest_0 : decode cX7_copyDigest 0 = .ok (.aload_n 0, 1) := by decide +kernel
theorem dX7_copyDigest_1 : decode cX7_copyDigest 1 = .ok (.iconst 0, 1) := by decide +kernel
theorem dX7_copyDigest_2 : decode cX7_copyDigest 2 = .ok (.aload_n 1, 1) := by decide +kernel
theorem dX7_copyDigest_3 : decode cX7_copyDigest 3 = .ok (.iconst 0, 1) := by decide +kernel
theorem dX7_copyDigest_4 : decode cX7_copyDigest 4 = .ok (.bipush 32, 2) := by decide +kernel
theorem dX7_copyDigest_6 : decode cX7_copyDigest 6 = .ok (.invokestatic 309, 3) := by decide +kernel
theorem dX7_copyDigest_9 : decode cX7_copyDigest 9 = .ok (.return_, 1) := by decide +kernel
theorem dX7_sameDigest_0 : decode cX7_sameDigest 0 = .ok (.aload_n 0, 1) := by decide +kernel
theorem dX7_sameDigest_1 : decode cX7_sameDigest 1 = .ok (.aload_n 1, 1) := by decide +kernel
theorem dX7_sameDigest_2 : decode cX7_sameDigest 2 = .ok (.iconst 0, 1) := by decide +kernel
theorem dX7_sameDigest_3 : decode cX7_sameDigest 3 = .ok (.invokestatic 305, 3) := by decide +kernel
theorem dX7_sameDigest_6 : decode cX7_sameDigest 6 = .ok (.ireturn, 1) := by decide +kernel
theorem dX7_sameBytes_0 : decode cX7_sameBytes 0 = .ok (.iconst 0, 1) := by decide +kernel
theorem dX7_sameBytes_1 : decode cX7_sameBytes 1 = .ok (.istore_n 3, 1) := by decide +kernel
theorem dX7_sameBytes_2 : decode cX7_sameBytes 2 = .ok (.iload_n 3, 1) := by decide +kernel
theorem dX7_sameBytes_3 : decode cX7_sameBytes 3 = .ok (.bipush 32, 2) := by decide +kernel
theorem dX7_sameBytes_5 : decode cX7_sameBytes 5 = .ok (.if_icmp .ge 22, 3) := by decide +kernel
theorem dX7_sameBytes_8 : decode cX7_sameBytes 8 = .ok (.aload_n 0, 1) := by decide +kernel
theorem dX7_sameBytes_9 : decode cX7_sameBytes 9 = .ok (.iload_n 3, 1) := by decide +kernel
theorem dX7_sameBytes_10 : decode cX7_sameBytes 10 = .ok (.baload, 1) := by decide +kernel
theorem dX7_sameBytes_11 : decode cX7_sameBytes 11 = .ok (.aload_n 1, 1) := by decide +kernel
theorem dX7_sameBytes_12 : decode cX7_sameBytes 12 = .ok (.iload_n 2, 1) := by decide +kernel
theorem dX7_sameBytes_13 : decode cX7_sameBytes 13 = .ok (.iload_n 3, 1) := by decide +kernel
theorem dX7_sameBytes_14 : decode cX7_sameBytes 14 = .ok (.iadd, 1) := by decide +kernel
theorem dX7_sameBytes_15 : decode cX7_sameBytes 15 = .ok (.baload, 1) := by decide +kernel
theorem dX7_sameBytes_16 : decode cX7_sameBytes 16 = .ok (.if_icmp .eq 5, 3) := by decide +kernel
theorem dX7_sameBytes_19 : decode cX7_sameBytes 19 = .ok (.iconst 0, 1) := by decide +kernel
theorem dX7_sameBytes_20 : decode cX7_sameBytes 20 = .ok (.ireturn, 1) := by decide +kernel
theorem dX7_sameBytes_21 : decode cX7_sameBytes 21 = .ok (.iinc 3 1, 3) := by decide +kernel
theorem dX7_sameBytes_24 : decode cX7_sameBytes 24 = .ok (.goto (-22), 3) := by decide +kernel
theorem dX7_sameBytes_27 : decode cX7_sameBytes 27 = .ok (.iconst 1, 1) := by decide +kernel
theorem dX7_sameBytes_28 : decode cX7_sameBytes 28 = .ok (.ireturn, 1) := by decide +kernel
theorem dX8_init_0 : decode cX8_init 0 = .ok (.aload_n 0, 1) := by decide +kernel
theorem dX8_init_1 : decode cX8_init 1 = .ok (.invokespecial 1, 3) := by decide +kernel
theorem dX8_init_4 : decode cX8_init 4 = .ok (.aload_n 0, 1) := by decide +kernel
theorem dX8_init_5 : decode cX8_init 5 = .ok (.sipush 400, 3) := by decide +kernel
theorem dX8_init_8 : decode cX8_init 8 = .ok (.newarray .byte, 2) := by decide +kernel
theorem dX8_init_10 : decode cX8_init 10 = .ok (.putfield 9, 3) := by decide +kernel
theorem dX8_init_13 : decode cX8_init 13 = .ok (.aload_n 0, 1) := by decide +kernel
theorem dX8_init_14 : decode cX8_init 14 = .ok (.sipush 512, 3) := by decide +kernel
theorem dX8_init_17 : decode cX8_init 17 = .ok (.newarray .byte, 2) := by decide +kernel
theorem dX8_init_19 : decode cX8_init 19 = .ok (.putfield 13, 3) := by decide +kernel
theorem dX8_init_22 : decode cX8_init 22 = .ok (.aload_n 0, 1) := by decide +kernel
theorem dX8_init_23 : decode cX8_init 23 = .ok (.sipush 1024, 3) := by decide +kernel
theorem dX8_init_26 : decode cX8_init 26 = .ok (.newarray .byte, 2) := by decide +kernel
theorem dX8_init_28 : decode cX8_init 28 = .ok (.putfield 16, 3) := by decide +kernel
theorem dX8_init_31 : decode cX8_init 31 = .ok (.aload_n 0, 1) := by decide +kernel
theorem dX8_init_32 : decode cX8_init 32 = .ok (.bipush 8, 2) := by decide +kernel
theorem dX8_init_34 : decode cX8_init 34 = .ok (.newarray .long, 2) := by decide +kernel
theorem dX8_init_36 : decode cX8_init 36 = .ok (.putfield 19, 3) := by decide +kernel
theorem dX8_init_39 : decode cX8_init 39 = .ok (.aload_n 0, 1) := by decide +kernel
theorem dX8_init_40 : decode cX8_init 40 = .ok (.bipush 64, 2) := by decide +kernel
theorem dX8_init_42 : decode cX8_init 42 = .ok (.newarray .long, 2) := by decide +kernel
theorem dX8_init_44 : decode cX8_init 44 = .ok (.putfield 23, 3) := by decide +kernel
theorem dX8_init_47 : decode cX8_init 47 = .ok (.aload_n 0, 1) := by decide +kernel
theorem dX8_init_48 : decode cX8_init 48 = .ok (.bipush 32, 2) := by decide +kernel
theorem dX8_init_50 : decode cX8_init 50 = .ok (.newarray .byte, 2) := by decide +kernel
theorem dX8_init_52 : decode cX8_init 52 = .ok (.putfield 26, 3) := by decide +kernel
theorem dX8_init_55 : decode cX8_init 55 = .ok (.aload_n 0, 1) := by decide +kernel
theorem dX8_init_56 : decode cX8_init 56 = .ok (.bipush 32, 2) := by decide +kernel
theorem dX8_init_58 : decode cX8_init 58 = .ok (.newarray .byte, 2) := by decide +kernel
theorem dX8_init_60 : decode cX8_init 60 = .ok (.putfield 29, 3) := by decide +kernel
theorem dX8_init_63 : decode cX8_init 63 = .ok (.aload_n 0, 1) := by decide +kernel
theorem dX8_init_64 : decode cX8_init 64 = .ok (.sipush 1024, 3) := by decide +kernel
theorem dX8_init_67 : decode cX8_init 67 = .ok (.newarray .byte, 2) := by decide +kernel
theorem dX8_init_69 : decode cX8_init 69 = .ok (.putfield 32, 3) := by decide +kernel
theorem dX8_init_72 : decode cX8_init 72 = .ok (.aload_n 0, 1) := by decide +kernel
theorem dX8_init_73 : decode cX8_init 73 = .ok (.bipush 32, 2) := by decide +kernel
theorem dX8_init_75 : decode cX8_init 75 = .ok (.newarray .byte, 2) := by decide +kernel
theorem dX8_init_77 : decode cX8_init 77 = .ok (.putfield 35, 3) := by decide +kernel
theorem dX8_init_80 : decode cX8_init 80 = .ok (.aload_n 0, 1) := by decide +kernel
theorem dX8_init_81 : decode cX8_init 81 = .ok (.bipush 32, 2) := by decide +kernel
theorem dX8_init_83 : decode cX8_init 83 = .ok (.newarray .byte, 2) := by decide +kernel
theorem dX8_init_85 : decode cX8_init 85 = .ok (.putfield 38, 3) := by decide +kernel
theorem dX8_init_88 : decode cX8_init 88 = .ok (.aload_n 0, 1) := by decide +kernel
theorem dX8_init_89 : decode cX8_init 89 = .ok (.bipush 32, 2) := by decide +kernel
theorem dX8_init_91 : decode cX8_init 91 = .ok (.newarray .byte, 2) := by decide +kernel
theorem dX8_init_93 : decode cX8_init 93 = .ok (.putfield 41, 3) := by decide +kernel
theorem dX8_init_96 : decode cX8_init 96 = .ok (.aload_n 0, 1) := by decide +kernel
theorem dX8_init_97 : decode cX8_init 97 = .ok (.sipush 256, 3) := by decide +kernel
theorem dX8_init_100 : decode cX8_init 100 = .ok (.newarray .byte, 2) := by decide +kernel
theorem dX8_init_102 : decode cX8_init 102 = .ok (.putfield 44, 3) := by decide +kernel
theorem dX8_init_105 : decode cX8_init 105 = .ok (.aload_n 0, 1) := by decide +kernel
theorem dX8_init_106 : decode cX8_init 106 = .ok (.iconst 4, 1) := by decide +kernel
theorem dX8_init_107 : decode cX8_init 107 = .ok (.newarray .boolean, 2) := by decide +kernel
theorem dX8_init_109 : decode cX8_init 109 = .ok (.putfield 47, 3) := by decide +kernel
theorem dX8_init_112 : decode cX8_init 112 = .ok (.aload_n 0, 1) := by decide +kernel
theorem dX8_init_113 : decode cX8_init 113 = .ok (.sipush 128, 3) := by decide +kernel
theorem dX8_init_116 : decode cX8_init 116 = .ok (.newarray .byte, 2) := by decide +kernel
theorem dX8_init_118 : decode cX8_init 118 = .ok (.putfield 51, 3) := by decide +kernel
theorem dX8_init_121 : decode cX8_init 121 = .ok (.aload_n 0, 1) := by decide +kernel
theorem dX8_init_122 : decode cX8_init 122 = .ok (.iconst 4, 1) := by decide +kernel
theorem dX8_init_123 : decode cX8_init 123 = .ok (.newarray .boolean, 2) := by decide +kernel
theorem dX8_init_125 : decode cX8_init 125 = .ok (.putfield 54, 3) := by decide +kernel
theorem dX8_init_128 : decode cX8_init 128 = .ok (.aload_n 0, 1) := by decide +kernel
theorem dX8_init_129 : decode cX8_init 129 = .ok (.iconst 4, 1) := by decide +kernel
theorem dX8_init_130 : decode cX8_init 130 = .ok (.newarray .boolean, 2) := by decide +kernel
theorem dX8_init_132 : decode cX8_init 132 = .ok (.putfield 57, 3) := by decide +kernel
theorem dX8_init_135 : decode cX8_init 135 = .ok (.aload_n 0, 1) := by decide +kernel
theorem dX8_init_136 : decode cX8_init 136 = .ok (.iconst 4, 1) := by decide +kernel
theorem dX8_init_137 : decode cX8_init 137 = .ok (.newarray .boolean, 2) := by decide +kernel
theorem dX8_init_139 : decode cX8_init 139 = .ok (.putfield 60, 3) := by decide +kernel
theorem dX8_init_142 : decode cX8_init 142 = .ok (.aload_n 0, 1) := by decide +kernel
theorem dX8_init_143 : decode cX8_init 143 = .ok (.iconst 4, 1) := by decide +kernel
theorem dX8_init_144 : decode cX8_init 144 = .ok (.newarray .boolean, 2) := by decide +kernel
theorem dX8_init_146 : decode cX8_init 146 = .ok (.putfield 63, 3) := by decide +kernel
theorem dX8_init_149 : decode cX8_init 149 = .ok (.aload_n 0, 1) := by decide +kernel
theorem dX8_init_150 : decode cX8_init 150 = .ok (.iconst 4, 1) := by decide +kernel
theorem dX8_init_151 : decode cX8_init 151 = .ok (.newarray .int, 2) := by decide +kernel
theorem dX8_init_153 : decode cX8_init 153 = .ok (.putfield 66, 3) := by decide +kernel
theorem dX8_init_156 : decode cX8_init 156 = .ok (.aload_n 0, 1) := by decide +kernel
theorem dX8_init_157 : decode cX8_init 157 = .ok (.iconst 4, 1) := by decide +kernel
theorem dX8_init_158 : decode cX8_init 158 = .ok (.newarray .int, 2) := by decide +kernel
theorem dX8_init_160 : decode cX8_init 160 = .ok (.putfield 70, 3) := by decide +kernel
theorem dX8_init_163 : decode cX8_init 163 = .ok (.aload_n 0, 1) := by decide +kernel
theorem dX8_init_164 : decode cX8_init 164 = .ok (.bipush 12, 2) := by decide +kernel
theorem dX8_init_166 : decode cX8_init 166 = .ok (.newarray .boolean, 2) := by decide +kernel
theorem dX8_init_168 : decode cX8_init 168 = .ok (.putfield 73, 3) := by decide +kernel
theorem dX8_init_171 : decode cX8_init 171 = .ok (.aload_n 0, 1) := by decide +kernel
theorem dX8_init_172 : decode cX8_init 172 = .ok (.sipush 384, 3) := by decide +kernel
theorem dX8_init_175 : decode cX8_init 175 = .ok (.newarray .byte, 2) := by decide +kernel
theorem dX8_init_177 : decode cX8_init 177 = .ok (.putfield 76, 3) := by decide +kernel
theorem dX8_init_180 : decode cX8_init 180 = .ok (.aload_n 0, 1) := by decide +kernel
theorem dX8_init_181 : decode cX8_init 181 = .ok (.sipush 384, 3) := by decide +kernel
theorem dX8_init_184 : decode cX8_init 184 = .ok (.newarray .byte, 2) := by decide +kernel
theorem dX8_init_186 : decode cX8_init 186 = .ok (.putfield 79, 3) := by decide +kernel
theorem dX8_init_189 : decode cX8_init 189 = .ok (.aload_n 0, 1) := by decide +kernel
theorem dX8_init_190 : decode cX8_init 190 = .ok (.sipush 1536, 3) := by decide +kernel
theorem dX8_init_193 : decode cX8_init 193 = .ok (.newarray .byte, 2) := by decide +kernel
theorem dX8_init_195 : decode cX8_init 195 = .ok (.putfield 82, 3) := by decide +kernel
theorem dX8_init_198 : decode cX8_init 198 = .ok (.aload_n 0, 1) := by decide +kernel
theorem dX8_init_199 : decode cX8_init 199 = .ok (.bipush 12, 2) := by decide +kernel
theorem dX8_init_201 : decode cX8_init 201 = .ok (.newarray .int, 2) := by decide +kernel
theorem dX8_init_203 : decode cX8_init 203 = .ok (.putfield 85, 3) := by decide +kernel
theorem dX8_init_206 : decode cX8_init 206 = .ok (.aload_n 0, 1) := by decide +kernel
theorem dX8_init_207 : decode cX8_init 207 = .ok (.bipush 12, 2) := by decide +kernel
theorem dX8_init_209 : decode cX8_init 209 = .ok (.newarray .int, 2) := by decide +kernel
theorem dX8_init_211 : decode cX8_init 211 = .ok (.putfield 88, 3) := by decide +kernel
theorem dX8_init_214 : decode cX8_init 214 = .ok (.aload_n 0, 1) := by decide +kernel
theorem dX8_init_215 : decode cX8_init 215 = .ok (.bipush 12, 2) := by decide +kernel
theorem dX8_init_217 : decode cX8_init 217 = .ok (.newarray .boolean, 2) := by decide +kernel
theorem dX8_init_219 : decode cX8_init 219 = .ok (.putfield 91, 3) := by decide +kernel
theorem dX8_init_222 : decode cX8_init 222 = .ok (.aload_n 0, 1) := by decide +kernel
theorem dX8_init_223 : decode cX8_init 223 = .ok (.bipush 12, 2) := by decide +kernel
theorem dX8_init_225 : decode cX8_init 225 = .ok (.newarray .boolean, 2) := by decide +kernel
theorem dX8_init_227 : decode cX8_init 227 = .ok (.putfield 94, 3) := by decide +kernel
theorem dX8_init_230 : decode cX8_init 230 = .ok (.aload_n 0, 1) := by decide +kernel
theorem dX8_init_231 : decode cX8_init 231 = .ok (.bipush 32, 2) := by decide +kernel
theorem dX8_init_233 : decode cX8_init 233 = .ok (.newarray .byte, 2) := by decide +kernel
theorem dX8_init_235 : decode cX8_init 235 = .ok (.putfield 97, 3) := by decide +kernel
theorem dX8_init_238 : decode cX8_init 238 = .ok (.aload_n 0, 1) := by decide +kernel
theorem dX8_init_239 : decode cX8_init 239 = .ok (.iconst 0, 1) := by decide +kernel
theorem dX8_init_240 : decode cX8_init 240 = .ok (.putfield 100, 3) := by decide +kernel
theorem dX8_init_243 : decode cX8_init 243 = .ok (.aload_n 0, 1) := by decide +kernel
theorem dX8_init_244 : decode cX8_init 244 = .ok (.bipush 83, 2) := by decide +kernel
theorem dX8_init_246 : decode cX8_init 246 = .ok (.invokevirtual 104, 3) := by decide +kernel
theorem dX8_init_249 : decode cX8_init 249 = .ok (.aload_n 0, 1) := by decide +kernel
theorem dX8_init_250 : decode cX8_init 250 = .ok (.bipush 69, 2) := by decide +kernel
theorem dX8_init_252 : decode cX8_init 252 = .ok (.invokevirtual 104, 3) := by decide +kernel
theorem dX8_init_255 : decode cX8_init 255 = .ok (.aload_n 0, 1) := by decide +kernel
theorem dX8_init_256 : decode cX8_init 256 = .ok (.bipush 69, 2) := by decide +kernel
theorem dX8_init_258 : decode cX8_init 258 = .ok (.invokevirtual 104, 3) := by decide +kernel
theorem dX8_init_261 : decode cX8_init 261 = .ok (.aload_n 0, 1) := by decide +kernel
theorem dX8_init_262 : decode cX8_init 262 = .ok (.bipush 68, 2) := by decide +kernel
theorem dX8_init_264 : decode cX8_init 264 = .ok (.invokevirtual 104, 3) := by decide +kernel
theorem dX8_init_267 : decode cX8_init 267 = .ok (.aload_n 0, 1) := by decide +kernel
theorem dX8_init_268 : decode cX8_init 268 = .ok (.iload_n 1, 1) := by decide +kernel
theorem dX8_init_269 : decode cX8_init 269 = .ok (.invokevirtual 108, 3) := by decide +kernel
theorem dX8_init_272 : decode cX8_init 272 = .ok (.aload_n 0, 1) := by decide +kernel
theorem dX8_init_273 : decode cX8_init 273 = .ok (.aload_n 0, 1) := by decide +kernel
theorem dX8_init_274 : decode cX8_init 274 = .ok (.getfield 35, 3) := by decide +kernel
theorem dX8_init_277 : decode cX8_init 277 = .ok (.iconst 0, 1) := by decide +kernel
theorem dX8_init_278 : decode cX8_init 278 = .ok (.invokevirtual 111, 3) := by decide +kernel
theorem dX8_init_281 : decode cX8_init 281 = .ok (.aload_n 0, 1) := by decide +kernel
theorem dX8_init_282 : decode cX8_init 282 = .ok (.iconst 0, 1) := by decide +kernel
theorem dX8_init_283 : decode cX8_init 283 = .ok (.putfield 100, 3) := by decide +kernel
theorem dX8_init_286 : decode cX8_init 286 = .ok (.aload_n 0, 1) := by decide +kernel
theorem dX8_init_287 : decode cX8_init 287 = .ok (.aload_n 0, 1) := by decide +kernel
theorem dX8_init_288 : decode cX8_init 288 = .ok (.getfield 38, 3) := by decide +kernel
theorem dX8_init_291 : decode cX8_init 291 = .ok (.iconst 0, 1) := by decide +kernel
theorem dX8_init_292 : decode cX8_init 292 = .ok (.invokevirtual 111, 3) := by decide +kernel
theorem dX8_init_295 : decode cX8_init 295 = .ok (.aload_n 0, 1) := by decide +kernel
theorem dX8_init_296 : decode cX8_init 296 = .ok (.aload_n 0, 1) := by decide +kernel
theorem dX8_init_297 : decode cX8_init 297 = .ok (.getfield 41, 3) := by decide +kernel
theorem dX8_init_300 : decode cX8_init 300 = .ok (.iconst 0, 1) := by decide +kernel
theorem dX8_init_301 : decode cX8_init 301 = .ok (.invokevirtual 111, 3) := by decide +kernel
theorem dX8_init_304 : decode cX8_init 304 = .ok (.return_, 1) := by decide +kernel
theorem dX8_add_0 : decode cX8_add 0 = .ok (.aload_n 0, 1) := by decide +kernel
theorem dX8_add_1 : decode cX8_add 1 = .ok (.getfield 16, 3) := by decide +kernel
theorem dX8_add_4 : decode cX8_add 4 = .ok (.aload_n 0, 1) := by decide +kernel
theorem dX8_add_5 : decode cX8_add 5 = .ok (.getfield 100, 3) := by decide +kernel
theorem dX8_add_8 : decode cX8_add 8 = .ok (.iload_n 1, 1) := by decide +kernel
theorem dX8_add_9 : decode cX8_add 9 = .ok (.i2b, 1) := by decide +kernel
theorem dX8_add_10 : decode cX8_add 10 = .ok (.bastore, 1) := by decide +kernel
theorem dX8_add_11 : decode cX8_add 11 = .ok (.aload_n 0, 1) := by decide +kernel
theorem dX8_add_12 : decode cX8_add 12 = .ok (.dup, 1) := by decide +kernel
theorem dX8_add_13 : decode cX8_add 13 = .ok (.getfield 100, 3) := by decide +kernel
theorem dX8_add_16 : decode cX8_add 16 = .ok (.iconst 1, 1) := by decide +kernel
theorem dX8_add_17 : decode cX8_add 17 = .ok (.iadd, 1) := by decide +kernel
theorem dX8_add_18 : decode cX8_add 18 = .ok (.putfield 100, 3) := by decide +kernel
theorem dX8_add_21 : decode cX8_add 21 = .ok (.return_, 1) := by decide +kernel
theorem dX8_word_0 : decode cX8_word 0 = .ok (.bipush 24, 2) := by decide +kernel
theorem dX8_word_2 : decode cX8_word 2 = .ok (.istore_n 2, 1) := by decide +kernel
theorem dX8_word_3 : decode cX8_word 3 = .ok (.iload_n 2, 1) := by decide +kernel
theorem dX8_word_4 : decode cX8_word 4 = .ok (.ifCond .lt 16, 3) := by decide +kernel
theorem dX8_word_7 : decode cX8_word 7 = .ok (.aload_n 0, 1) := by decide +kernel
theorem dX8_word_8 : decode cX8_word 8 = .ok (.iload_n 1, 1) := by decide +kernel
theorem dX8_word_9 : decode cX8_word 9 = .ok (.iload_n 2, 1) := by decide +kernel
theorem dX8_word_10 : decode cX8_word 10 = .ok (.ishr, 1) := by decide +kernel
theorem dX8_word_11 : decode cX8_word 11 = .ok (.invokevirtual 104, 3) := by decide +kernel
theorem dX8_word_14 : decode cX8_word 14 = .ok (.iinc 2 (-8), 3) := by decide +kernel
theorem dX8_word_17 : decode cX8_word 17 = .ok (.goto (-14), 3) := by decide +kernel
theorem dX8_word_20 : decode cX8_word 20 = .ok (.return_, 1) := by decide +kernel
theorem dX8_add__0 : decode cX8_add_ 0 = .ok (.iconst 0, 1) := by decide +kernel
theorem dX8_add__1 : decode cX8_add_ 1 = .ok (.istore 4, 2) := by decide +kernel
theorem dX8_add__3 : decode cX8_add_ 3 = .ok (.iload 4, 2) := by decide +kernel
theorem dX8_add__5 : decode cX8_add_ 5 = .ok (.iload_n 3, 1) := by decide +kernel
theorem dX8_add__6 : decode cX8_add_ 6 = .ok (.if_icmp .ge 19, 3) := by decide +kernel
theorem dX8_add__9 : decode cX8_add_ 9 = .ok (.aload_n 0, 1) := by decide +kernel
theorem dX8_add__10 : decode cX8_add_ 10 = .ok (.aload_n 1, 1) := by decide +kernel
theorem dX8_add__11 : decode cX8_add_ 11 = .ok (.iload_n 2, 1) := by decide +kernel
theorem dX8_add__12 : decode cX8_add_ 12 = .ok (.iload 4, 2) := by decide +kernel
theorem dX8_add__14 : decode cX8_add_ 14 = .ok (.iadd, 1) := by decide +kernel
theorem dX8_add__15 : decode cX8_add_ 15 = .ok (.baload, 1) := by decide +kernel
theorem dX8_add__16 : decode cX8_add_ 16 = .ok (.invokevirtual 104, 3) := by decide +kernel
theorem dX8_add__19 : decode cX8_add_ 19 = .ok (.iinc 4 1, 3) := by decide +kernel
theorem dX8_add__22 : decode cX8_add_ 22 = .ok (.goto (-19), 3) := by decide +kernel
theorem dX8_add__25 : decode cX8_add_ 25 = .ok (.return_, 1) := by decide +kernel
theorem dX8_turn_0 : decode cX8_turn 0 = .ok (.lload_n 0, 1) := by decide +kernel
theorem dX8_turn_1 : decode cX8_turn 1 = .ok (.iload_n 2, 1) := by decide +kernel
theorem dX8_turn_2 : decode cX8_turn 2 = .ok (.lshr, 1) := by decide +kernel
theorem dX8_turn_3 : decode cX8_turn 3 = .ok (.lload_n 0, 1) := by decide +kernel
theorem dX8_turn_4 : decode cX8_turn 4 = .ok (.bipush 32, 2) := by decide +kernel
theorem dX8_turn_6 : decode cX8_turn 6 = .ok (.iload_n 2, 1) := by decide +kernel
theorem dX8_turn_7 : decode cX8_turn 7 = .ok (.isub, 1) := by decide +kernel
theorem dX8_turn_8 : decode cX8_turn 8 = .ok (.lshl, 1) := by decide +kernel
theorem dX8_turn_9 : decode cX8_turn 9 = .ok (.lor, 1) := by decide +kernel
theorem dX8_turn_10 : decode cX8_turn 10 = .ok (.ldc2_w 115, 3) := by decide +kernel
theorem dX8_turn_13 : decode cX8_turn 13 = .ok (.land, 1) := by decide +kernel
theorem dX8_turn_14 : decode cX8_turn 14 = .ok (.lreturn, 1) := by decide +kernel
end
section
theorem dX8_block_0 : decode cX8_block 0 = .ok (.iconst 0, 1) := by decide +kernel
theorem dX8_block_1 : decode cX8_block 1 = .ok (.istore 4, 2) := by decide +kernel
theorem dX8_block_3 : decode cX8_block 3 = .ok (.iload 4, 2) := by decide +kernel
theorem dX8_block_5 : decode cX8_block 5 = .ok (.bipush 16, 2) := by decide +kernel
theorem dX8_block_7 : decode cX8_block 7 = .ok (.if_icmp .ge 122, 3) := by decide +kernel
theorem dX8_block_10 : decode cX8_block 10 = .ok (.lconst 0, 1) := by decide +kernel
theorem dX8_block_11 : decode cX8_block 11 = .ok (.lstore 5, 2) := by decide +kernel
theorem dX8_block_13 : decode cX8_block 13 = .ok (.iconst 0, 1) := by decide +kernel
theorem dX8_block_14 : decode cX8_block 14 = .ok (.istore 7, 2) := by decide +kernel
theorem dX8_block_16 : decode cX8_block 16 = .ok (.iload 7, 2) := by decide +kernel
theorem dX8_block_18 : decode cX8_block 18 = .ok (.iconst 4, 1) := by decide +kernel
theorem dX8_block_19 : decode cX8_block 19 = .ok (.if_icmp .ge 95, 3) := by decide +kernel
theorem dX8_block_22 : decode cX8_block 22 = .ok (.iload_n 1, 1) := by decide +kernel
theorem dX8_block_23 : decode cX8_block 23 = .ok (.iconst 4, 1) := by decide +kernel
theorem dX8_block_24 : decode cX8_block 24 = .ok (.iload 4, 2) := by decide +kernel
theorem dX8_block_26 : decode cX8_block 26 = .ok (.imul, 1) := by decide +kernel
theorem dX8_block_27 : decode cX8_block 27 = .ok (.iadd, 1) := by decide +kernel
theorem dX8_block_28 : decode cX8_block 28 = .ok (.iload 7, 2) := by decide +kernel
theorem dX8_block_30 : decode cX8_block 30 = .ok (.iadd, 1) := by decide +kernel
theorem dX8_block_31 : decode cX8_block 31 = .ok (.istore 8, 2) := by decide +kernel
theorem dX8_block_33 : decode cX8_block 33 = .ok (.iload 8, 2) := by decide +kernel
theorem dX8_block_35 : decode cX8_block 35 = .ok (.iload_n 2, 1) := by decide +kernel
theorem dX8_block_36 : decode cX8_block 36 = .ok (.if_icmp .ge 17, 3) := by decide +kernel
theorem dX8_block_39 : decode cX8_block 39 = .ok (.aload_n 0, 1) := by decide +kernel
theorem dX8_block_40 : decode cX8_block 40 = .ok (.getfield 16, 3) := by decide +kernel
theorem dX8_block_43 : decode cX8_block 43 = .ok (.iload 8, 2) := by decide +kernel
theorem dX8_block_45 : decode cX8_block 45 = .ok (.baload, 1) := by decide +kernel
theorem dX8_block_46 : decode cX8_block 46 = .ok (.sipush 255, 3) := by decide +kernel
theorem dX8_block_49 : decode cX8_block 49 = .ok (.iand, 1) := by decide +kernel
theorem dX8_block_50 : decode cX8_block 50 = .ok (.goto 45, 3) := by decide +kernel
theorem dX8_block_53 : decode cX8_block 53 = .ok (.iload 8, 2) := by decide +kernel
theorem dX8_block_55 : decode cX8_block 55 = .ok (.iload_n 2, 1) := by decide +kernel
theorem dX8_block_56 : decode cX8_block 56 = .ok (.if_icmp .ne 9, 3) := by decide +kernel
theorem dX8_block_59 : decode cX8_block 59 = .ok (.sipush 128, 3) := by decide +kernel
theorem dX8_block_62 : decode cX8_block 62 = .ok (.goto 33, 3) := by decide +kernel
theorem dX8_block_65 : decode cX8_block 65 = .ok (.iload 8, 2) := by decide +kernel
theorem dX8_block_67 : decode cX8_block 67 = .ok (.iload_n 3, 1) := by decide +kernel
theorem dX8_block_68 : decode cX8_block 68 = .ok (.iconst 4, 1) := by decide +kernel
theorem dX8_block_69 : decode cX8_block 69 = .ok (.isub, 1) := by decide +kernel
theorem dX8_block_70 : decode cX8_block 70 = .ok (.if_icmp .lt 24, 3) := by decide +kernel
theorem dX8_block_73 : decode cX8_block 73 = .ok (.bipush 8, 2) := by decide +kernel
theorem dX8_block_75 : decode cX8_block 75 = .ok (.iload_n 2, 1) := by decide +kernel
theorem dX8_block_76 : decode cX8_block 76 = .ok (.imul, 1) := by decide +kernel
theorem dX8_block_77 : decode cX8_block 77 = .ok (.bipush 8, 2) := by decide +kernel
theorem dX8_block_79 : decode cX8_block 79 = .ok (.iload_n 3, 1) := by decide +kernel
theorem dX8_block_80 : decode cX8_block 80 = .ok (.iconst 1, 1) := by decide +kernel
theorem dX8_block_81 : decode cX8_block 81 = .ok (.isub, 1) := by decide +kernel
theorem dX8_block_82 : decode cX8_block 82 = .ok (.iload 8, 2) := by decide +kernel
theorem dX8_block_84 : decode cX8_block 84 = .ok (.isub, 1) := by decide +kernel
theorem dX8_block_85 : decode cX8_block 85 = .ok (.imul, 1) := by decide +kernel
theorem dX8_block_86 : decode cX8_block 86 = .ok (.ishr, 1) := by decide +kernel
theorem dX8_block_87 : decode cX8_block 87 = .ok (.sipush 255, 3) := by decide +kernel
theorem dX8_block_90 : decode cX8_block 90 = .ok (.iand, 1) := by decide +kernel
theorem dX8_block_91 : decode cX8_block 91 = .ok (.goto 4, 3) := by decide +kernel
theorem dX8_block_94 : decode cX8_block 94 = .ok (.iconst 0, 1) := by decide +kernel
theorem dX8_block_95 : decode cX8_block 95 = .ok (.istore 9, 2) := by decide +kernel
theorem dX8_block_97 : decode cX8_block 97 = .ok (.lload 5, 2) := by decide +kernel
theorem dX8_block_99 : decode cX8_block 99 = .ok (.bipush 8, 2) := by decide +kernel
theorem dX8_block_101 : decode cX8_block 101 = .ok (.lshl, 1) := by decide +kernel
theorem dX8_block_102 : decode cX8_block 102 = .ok (.iload 9, 2) := by decide +kernel
theorem dX8_block_104 : decode cX8_block 104 = .ok (.i2l, 1) := by decide +kernel
theorem dX8_block_105 : decode cX8_block 105 = .ok (.lor, 1) := by decide +kernel
theorem dX8_block_106 : decode cX8_block 106 = .ok (.lstore 5, 2) := by decide +kernel
theorem dX8_block_108 : decode cX8_block 108 = .ok (.iinc 7 1, 3) := by decide +kernel
theorem dX8_block_111 : decode cX8_block 111 = .ok (.goto (-95), 3) := by decide +kernel
theorem dX8_block_114 : decode cX8_block 114 = .ok (.aload_n 0, 1) := by decide +kernel
theorem dX8_block_115 : decode cX8_block 115 = .ok (.getfield 23, 3) := by decide +kernel
theorem dX8_block_118 : decode cX8_block 118 = .ok (.iload 4, 2) := by decide +kernel
theorem dX8_block_120 : decode cX8_block 120 = .ok (.lload 5, 2) := by decide +kernel
theorem dX8_block_122 : decode cX8_block 122 = .ok (.lastore, 1) := by decide +kernel
theorem dX8_block_123 : decode cX8_block 123 = .ok (.iinc 4 1, 3) := by decide +kernel
theorem dX8_block_126 : decode cX8_block 126 = .ok (.goto (-123), 3) := by decide +kernel
theorem dX8_block_129 : decode cX8_block 129 = .ok (.bipush 16, 2) := by decide +kernel
theorem dX8_block_131 : decode cX8_block 131 = .ok (.istore 4, 2) := by decide +kernel
theorem dX8_block_133 : decode cX8_block 133 = .ok (.iload 4, 2) := by decide +kernel
theorem dX8_block_135 : decode cX8_block 135 = .ok (.bipush 64, 2) := by decide +kernel
theorem dX8_block_137 : decode cX8_block 137 = .ok (.if_icmp .ge 137, 3) := by decide +kernel
theorem dX8_block_140 : decode cX8_block 140 = .ok (.aload_n 0, 1) := by decide +kernel
theorem dX8_block_141 : decode cX8_block 141 = .ok (.getfield 23, 3) := by decide +kernel
theorem dX8_block_144 : decode cX8_block 144 = .ok (.iload 4, 2) := by decide +kernel
theorem dX8_block_146 : decode cX8_block 146 = .ok (.bipush 15, 2) := by decide +kernel
theorem dX8_block_148 : decode cX8_block 148 = .ok (.isub, 1) := by decide +kernel
theorem dX8_block_149 : decode cX8_block 149 = .ok (.laload, 1) := by decide +kernel
theorem dX8_block_150 : decode cX8_block 150 = .ok (.bipush 7, 2) := by decide +kernel
theorem dX8_block_152 : decode cX8_block 152 = .ok (.invokestatic 117, 3) := by decide +kernel
theorem dX8_block_155 : decode cX8_block 155 = .ok (.aload_n 0, 1) := by decide +kernel
theorem dX8_block_156 : decode cX8_block 156 = .ok (.getfield 23, 3) := by decide +kernel
theorem dX8_block_159 : decode cX8_block 159 = .ok (.iload 4, 2) := by decide +kernel
theorem dX8_block_161 : decode cX8_block 161 = .ok (.bipush 15, 2) := by decide +kernel
theorem dX8_block_163 : decode cX8_block 163 = .ok (.isub, 1) := by decide +kernel
theorem dX8_block_164 : decode cX8_block 164 = .ok (.laload, 1) := by decide +kernel
theorem dX8_block_165 : decode cX8_block 165 = .ok (.bipush 18, 2) := by decide +kernel
theorem dX8_block_167 : decode cX8_block 167 = .ok (.invokestatic 117, 3) := by decide +kernel
theorem dX8_block_170 : decode cX8_block 170 = .ok (.lxor, 1) := by decide +kernel
theorem dX8_block_171 : decode cX8_block 171 = .ok (.aload_n 0, 1) := by decide +kernel
theorem dX8_block_172 : decode cX8_block 172 = .ok (.getfield 23, 3) := by decide +kernel
theorem dX8_block_175 : decode cX8_block 175 = .ok (.iload 4, 2) := by decide +kernel
theorem dX8_block_177 : decode cX8_block 177 = .ok (.bipush 15, 2) := by decide +kernel
theorem dX8_block_179 : decode cX8_block 179 = .ok (.isub, 1) := by decide +kernel
theorem dX8_block_180 : decode cX8_block 180 = .ok (.laload, 1) := by decide +kernel
theorem dX8_block_181 : decode cX8_block 181 = .ok (.iconst 3, 1) := by decide +kernel
theorem dX8_block_182 : decode cX8_block 182 = .ok (.lshr, 1) := by decide +kernel
theorem dX8_block_183 : decode cX8_block 183 = .ok (.lxor, 1) := by decide +kernel
theorem dX8_block_184 : decode cX8_block 184 = .ok (.lstore 5, 2) := by decide +kernel
theorem dX8_block_186 : decode cX8_block 186 = .ok (.aload_n 0, 1) := by decide +kernel
theorem dX8_block_187 : decode cX8_block 187 = .ok (.getfield 23, 3) := by decide +kernel
theorem dX8_block_190 : decode cX8_block 190 = .ok (.iload 4, 2) := by decide +kernel
theorem dX8_block_192 : decode cX8_block 192 = .ok (.iconst 2, 1) := by decide +kernel
theorem dX8_block_193 : decode cX8_block 193 = .ok (.isub, 1) := by decide +kernel
theorem dX8_block_194 : decode cX8_block 194 = .ok (.laload, 1) := by decide +kernel
theorem dX8_block_195 : decode cX8_block 195 = .ok (.bipush 17, 2) := by decide +kernel
theorem dX8_block_197 : decode cX8_block 197 = .ok (.invokestatic 117, 3) := by decide +kernel
theorem dX8_block_200 : decode cX8_block 200 = .ok (.aload_n 0, 1) := by decide +kernel
theorem dX8_block_201 : decode cX8_block 201 = .ok (.getfield 23, 3) := by decide +kernel
theorem dX8_block_204 : decode cX8_block 204 = .ok (.iload 4, 2) := by decide +kernel
theorem dX8_block_206 : decode cX8_block 206 = .ok (.iconst 2, 1) := by decide +kernel
theorem dX8_block_207 : decode cX8_block 207 = .ok (.isub, 1) := by decide +kernel
theorem dX8_block_208 : decode cX8_block 208 = .ok (.laload, 1) := by decide +kernel
theorem dX8_block_209 : decode cX8_block 209 = .ok (.bipush 19, 2) := by decide +kernel
theorem dX8_block_211 : decode cX8_block 211 = .ok (.invokestatic 117, 3) := by decide +kernel
theorem dX8_block_214 : decode cX8_block 214 = .ok (.lxor, 1) := by decide +kernel
theorem dX8_block_215 : decode cX8_block 215 = .ok (.aload_n 0, 1) := by decide +kernel
theorem dX8_block_216 : decode cX8_block 216 = .ok (.getfield 23, 3) := by decide +kernel
theorem dX8_block_219 : decode cX8_block 219 = .ok (.iload 4, 2) := by decide +kernel
theorem dX8_block_221 : decode cX8_block 221 = .ok (.iconst 2, 1) := by decide +kernel
theorem dX8_block_222 : decode cX8_block 222 = .ok (.isub, 1) := by decide +kernel
theorem dX8_block_223 : decode cX8_block 223 = .ok (.laload, 1) := by decide +kernel
theorem dX8_block_224 : decode cX8_block 224 = .ok (.bipush 10, 2) := by decide +kernel
theorem dX8_block_226 : decode cX8_block 226 = .ok (.lshr, 1) := by decide +kernel
theorem dX8_block_227 : decode cX8_block 227 = .ok (.lxor, 1) := by decide +kernel
theorem dX8_block_228 : decode cX8_block 228 = .ok (.lstore 7, 2) := by decide +kernel
theorem dX8_block_230 : decode cX8_block 230 = .ok (.aload_n 0, 1) := by decide +kernel
theorem dX8_block_231 : decode cX8_block 231 = .ok (.getfield 23, 3) := by decide +kernel
theorem dX8_block_234 : decode cX8_block 234 = .ok (.iload 4, 2) := by decide +kernel
theorem dX8_block_236 : decode cX8_block 236 = .ok (.aload_n 0, 1) := by decide +kernel
theorem dX8_block_237 : decode cX8_block 237 = .ok (.getfield 23, 3) := by decide +kernel
theorem dX8_block_240 : decode cX8_block 240 = .ok (.iload 4, 2) := by decide +kernel
theorem dX8_block_242 : decode cX8_block 242 = .ok (.bipush 16, 2) := by decide +kernel
theorem dX8_block_244 : decode cX8_block 244 = .ok (.isub, 1) := by decide +kernel
theorem dX8_block_245 : decode cX8_block 245 = .ok (.laload, 1) := by decide +kernel
theorem dX8_block_246 : decode cX8_block 246 = .ok (.lload 5, 2) := by decide +kernel
theorem dX8_block_248 : decode cX8_block 248 = .ok (.ladd, 1) := by decide +kernel
theorem dX8_block_249 : decode cX8_block 249 = .ok (.aload_n 0, 1) := by decide +kernel
theorem dX8_block_250 : decode cX8_block 250 = .ok (.getfield 23, 3) := by decide +kernel
theorem dX8_block_253 : decode cX8_block 253 = .ok (.iload 4, 2) := by decide +kernel
theorem dX8_block_255 : decode cX8_block 255 = .ok (.bipush 7, 2) := by decide +kernel
theorem dX8_block_257 : decode cX8_block 257 = .ok (.isub, 1) := by decide +kernel
theorem dX8_block_258 : decode cX8_block 258 = .ok (.laload, 1) := by decide +kernel
theorem dX8_block_259 : decode cX8_block 259 = .ok (.ladd, 1) := by decide +kernel
theorem dX8_block_260 : decode cX8_block 260 = .ok (.lload 7, 2) := by decide +kernel
theorem dX8_block_262 : decode cX8_block 262 = .ok (.ladd, 1) := by decide +kernel
theorem dX8_block_263 : decode cX8_block 263 = .ok (.ldc2_w 115, 3) := by decide +kernel
theorem dX8_block_266 : decode cX8_block 266 = .ok (.land, 1) := by decide +kernel
theorem dX8_block_267 : decode cX8_block 267 = .ok (.lastore, 1) := by decide +kernel
theorem dX8_block_268 : decode cX8_block 268 = .ok (.iinc 4 1, 3) := by decide +kernel
theorem dX8_block_271 : decode cX8_block 271 = .ok (.goto (-138), 3) := by decide +kernel
theorem dX8_block_274 : decode cX8_block 274 = .ok (.aload_n 0, 1) := by decide +kernel
theorem dX8_block_275 : decode cX8_block 275 = .ok (.getfield 19, 3) := by decide +kernel
theorem dX8_block_278 : decode cX8_block 278 = .ok (.iconst 0, 1) := by decide +kernel
theorem dX8_block_279 : decode cX8_block 279 = .ok (.laload, 1) := by decide +kernel
theorem dX8_block_280 : decode cX8_block 280 = .ok (.lstore 4, 2) := by decide +kernel
theorem dX8_block_282 : decode cX8_block 282 = .ok (.aload_n 0, 1) := by decide +kernel
theorem dX8_block_283 : decode cX8_block 283 = .ok (.getfield 19, 3) := by decide +kernel
theorem dX8_block_286 : decode cX8_block 286 = .ok (.iconst 1, 1) := by decide +kernel
theorem dX8_block_287 : decode cX8_block 287 = .ok (.laload, 1) := by decide +kernel
theorem dX8_block_288 : decode cX8_block 288 = .ok (.lstore 6, 2) := by decide +kernel
theorem dX8_block_290 : decode cX8_block 290 = .ok (.aload_n 0, 1) := by decide +kernel
theorem dX8_block_291 : decode cX8_block 291 = .ok (.getfield 19, 3) := by decide +kernel
theorem dX8_block_294 : decode cX8_block 294 = .ok (.iconst 2, 1) := by decide +kernel
theorem dX8_block_295 : decode cX8_block 295 = .ok (.laload, 1) := by decide +kernel
theorem dX8_block_296 : decode cX8_block 296 = .ok (.lstore 8, 2) := by decide +kernel
theorem dX8_block_298 : decode cX8_block 298 = .ok (.aload_n 0, 1) := by decide +kernel
theorem dX8_block_299 : decode cX8_block 299 = .ok (.getfield 19, 3) := by decide +kernel
theorem dX8_block_302 : decode cX8_block 302 = .ok (.iconst 3, 1) := by decide +kernel
theorem dX8_block_303 : decode cX8_block 303 = .ok (.laload, 1) := by decide +kernel
theorem dX8_block_304 : decode cX8_block 304 = .ok (.lstore 10, 2) := by decide +kernel
theorem dX8_block_306 : decode cX8_block 306 = .ok (.aload_n 0, 1) := by decide +kernel
theorem dX8_block_307 : decode cX8_block 307 = .ok (.getfield 19, 3) := by decide +kernel
theorem dX8_block_310 : decode cX8_block 310 = .ok (.iconst 4, 1) := by decide +kernel
theorem dX8_block_311 : decode cX8_block 311 = .ok (.laload, 1) := by decide +kernel
theorem dX8_block_312 : decode cX8_block 312 = .ok (.lstore 12, 2) := by decide +kernel
theorem dX8_block_314 : decode cX8_block 314 = .ok (.aload_n 0, 1) := by decide +kernel
theorem dX8_block_315 : decode cX8_block 315 = .ok (.getfield 19, 3) := by decide +kernel
theorem dX8_block_318 : decode cX8_block 318 = .ok (.iconst 5, 1) := by decide +kernel
theorem dX8_block_319 : decode cX8_block 319 = .ok (.laload, 1) := by decide +kernel
theorem dX8_block_320 : decode cX8_block 320 = .ok (.lstore 14, 2) := by decide +kernel
theorem dX8_block_322 : decode cX8_block 322 = .ok (.aload_n 0, 1) := by decide +kernel
theorem dX8_block_323 : decode cX8_block 323 = .ok (.getfield 19, 3) := by decide +kernel
theorem dX8_block_326 : decode cX8_block 326 = .ok (.bipush 6, 2) := by decide +kernel
theorem dX8_block_328 : decode cX8_block 328 = .ok (.laload, 1) := by decide +kernel
theorem dX8_block_329 : decode cX8_block 329 = .ok (.lstore 16, 2) := by decide +kernel
theorem dX8_block_331 : decode cX8_block 331 = .ok (.aload_n 0, 1) := by decide +kernel
theorem dX8_block_332 : decode cX8_block 332 = .ok (.getfield 19, 3) := by decide +kernel
theorem dX8_block_335 : decode cX8_block 335 = .ok (.bipush 7, 2) := by decide +kernel
theorem dX8_block_337 : decode cX8_block 337 = .ok (.laload, 1) := by decide +kernel
theorem dX8_block_338 : decode cX8_block 338 = .ok (.lstore 18, 2) := by decide +kernel
theorem dX8_block_340 : decode cX8_block 340 = .ok (.iconst 0, 1) := by decide +kernel
theorem dX8_block_341 : decode cX8_block 341 = .ok (.istore 20, 2) := by decide +kernel
theorem dX8_block_343 : decode cX8_block 343 = .ok (.iload 20, 2) := by decide +kernel
theorem dX8_block_345 : decode cX8_block 345 = .ok (.bipush 64, 2) := by decide +kernel
theorem dX8_block_347 : decode cX8_block 347 = .ok (.if_icmp .ge 161, 3) := by decide +kernel
theorem dX8_block_350 : decode cX8_block 350 = .ok (.lload 18, 2) := by decide +kernel
theorem dX8_block_352 : decode cX8_block 352 = .ok (.lload 12, 2) := by decide +kernel
theorem dX8_block_354 : decode cX8_block 354 = .ok (.bipush 6, 2) := by decide +kernel
theorem dX8_block_356 : decode cX8_block 356 = .ok (.invokestatic 117, 3) := by decide +kernel
theorem dX8_block_359 : decode cX8_block 359 = .ok (.lload 12, 2) := by decide +kernel
theorem dX8_block_361 : decode cX8_block 361 = .ok (.bipush 11, 2) := by decide +kernel
theorem dX8_block_363 : decode cX8_block 363 = .ok (.invokestatic 117, 3) := by decide +kernel
theorem dX8_block_366 : decode cX8_block 366 = .ok (.lxor, 1) := by decide +kernel
theorem dX8_block_367 : decode cX8_block 367 = .ok (.lload 12, 2) := by decide +kernel
theorem dX8_block_369 : decode cX8_block 369 = .ok (.bipush 25, 2) := by decide +kernel
theorem dX8_block_371 : decode cX8_block 371 = .ok (.invokestatic 117, 3) := by decide +kernel
theorem dX8_block_374 : decode cX8_block 374 = .ok (.lxor, 1) := by decide +kernel
theorem dX8_block_375 : decode cX8_block 375 = .ok (.ladd, 1) := by decide +kernel
theorem dX8_block_376 : decode cX8_block 376 = .ok (.lload 12, 2) := by decide +kernel
theorem dX8_block_378 : decode cX8_block 378 = .ok (.lload 14, 2) := by decide +kernel
theorem dX8_block_380 : decode cX8_block 380 = .ok (.land, 1) := by decide +kernel
theorem dX8_block_381 : decode cX8_block 381 = .ok (.ldc2_w 115, 3) := by decide +kernel
theorem dX8_block_384 : decode cX8_block 384 = .ok (.lload 12, 2) := by decide +kernel
theorem dX8_block_386 : decode cX8_block 386 = .ok (.lsub, 1) := by decide +kernel
theorem dX8_block_387 : decode cX8_block 387 = .ok (.lload 16, 2) := by decide +kernel
theorem dX8_block_389 : decode cX8_block 389 = .ok (.land, 1) := by decide +kernel
theorem dX8_block_390 : decode cX8_block 390 = .ok (.lor, 1) := by decide +kernel
theorem dX8_block_391 : decode cX8_block 391 = .ok (.ladd, 1) := by decide +kernel
theorem dX8_block_392 : decode cX8_block 392 = .ok (.getstatic 121, 3) := by decide +kernel
theorem dX8_block_395 : decode cX8_block 395 = .ok (.iload 20, 2) := by decide +kernel
theorem dX8_block_397 : decode cX8_block 397 = .ok (.iaload, 1) := by decide +kernel
theorem dX8_block_398 : decode cX8_block 398 = .ok (.i2l, 1) := by decide +kernel
theorem dX8_block_399 : decode cX8_block 399 = .ok (.ldc2_w 115, 3) := by decide +kernel
theorem dX8_block_402 : decode cX8_block 402 = .ok (.land, 1) := by decide +kernel
theorem dX8_block_403 : decode cX8_block 403 = .ok (.ladd, 1) := by decide +kernel
theorem dX8_block_404 : decode cX8_block 404 = .ok (.aload_n 0, 1) := by decide +kernel
theorem dX8_block_405 : decode cX8_block 405 = .ok (.getfield 23, 3) := by decide +kernel
theorem dX8_block_408 : decode cX8_block 408 = .ok (.iload 20, 2) := by decide +kernel
theorem dX8_block_410 : decode cX8_block 410 = .ok (.laload, 1) := by decide +kernel
theorem dX8_block_411 : decode cX8_block 411 = .ok (.ladd, 1) := by decide +kernel
theorem dX8_block_412 : decode cX8_block 412 = .ok (.lstore 21, 2) := by decide +kernel
theorem dX8_block_414 : decode cX8_block 414 = .ok (.lload 4, 2) := by decide +kernel
theorem dX8_block_416 : decode cX8_block 416 = .ok (.iconst 2, 1) := by decide +kernel
theorem dX8_block_417 : decode cX8_block 417 = .ok (.invokestatic 117, 3) := by decide +kernel
theorem dX8_block_420 : decode cX8_block 420 = .ok (.lload 4, 2) := by decide +kernel
theorem dX8_block_422 : decode cX8_block 422 = .ok (.bipush 13, 2) := by decide +kernel
theorem dX8_block_424 : decode cX8_block 424 = .ok (.invokestatic 117, 3) := by decide +kernel
theorem dX8_block_427 : decode cX8_block 427 = .ok (.lxor, 1) := by decide +kernel
theorem dX8_block_428 : decode cX8_block 428 = .ok (.lload 4, 2) := by decide +kernel
theorem dX8_block_430 : decode cX8_block 430 = .ok (.bipush 22, 2) := by decide +kernel
theorem dX8_block_432 : decode cX8_block 432 = .ok (.invokestatic 117, 3) := by decide +kernel
theorem dX8_block_435 : decode cX8_block 435 = .ok (.lxor, 1) := by decide +kernel
theorem dX8_block_436 : decode cX8_block 436 = .ok (.lload 4, 2) := by decide +kernel
theorem dX8_block_438 : decode cX8_block 438 = .ok (.lload 6, 2) := by decide +kernel
theorem dX8_block_440 : decode cX8_block 440 = .ok (.land, 1) := by decide +kernel
theorem dX8_block_441 : decode cX8_block 441 = .ok (.lload 4, 2) := by decide +kernel
theorem dX8_block_443 : decode cX8_block 443 = .ok (.lload 8, 2) := by decide +kernel
theorem dX8_block_445 : decode cX8_block 445 = .ok (.land, 1) := by decide +kernel
theorem dX8_block_446 : decode cX8_block 446 = .ok (.lor, 1) := by decide +kernel
theorem dX8_block_447 : decode cX8_block 447 = .ok (.lload 6, 2) := by decide +kernel
theorem dX8_block_449 : decode cX8_block 449 = .ok (.lload 8, 2) := by decide +kernel
theorem dX8_block_451 : decode cX8_block 451 = .ok (.land, 1) := by decide +kernel
theorem dX8_block_452 : decode cX8_block 452 = .ok (.lor, 1) := by decide +kernel
theorem dX8_block_453 : decode cX8_block 453 = .ok (.ladd, 1) := by decide +kernel
theorem dX8_block_454 : decode cX8_block 454 = .ok (.lstore 23, 2) := by decide +kernel
theorem dX8_block_456 : decode cX8_block 456 = .ok (.lload 16, 2) := by decide +kernel
theorem dX8_block_458 : decode cX8_block 458 = .ok (.lstore 18, 2) := by decide +kernel
theorem dX8_block_460 : decode cX8_block 460 = .ok (.lload 14, 2) := by decide +kernel
theorem dX8_block_462 : decode cX8_block 462 = .ok (.lstore 16, 2) := by decide +kernel
theorem dX8_block_464 : decode cX8_block 464 = .ok (.lload 12, 2) := by decide +kernel
theorem dX8_block_466 : decode cX8_block 466 = .ok (.lstore 14, 2) := by decide +kernel
theorem dX8_block_468 : decode cX8_block 468 = .ok (.lload 10, 2) := by decide +kernel
theorem dX8_block_470 : decode cX8_block 470 = .ok (.lload 21, 2) := by decide +kernel
theorem dX8_block_472 : decode cX8_block 472 = .ok (.ladd, 1) := by decide +kernel
theorem dX8_block_473 : decode cX8_block 473 = .ok (.ldc2_w 115, 3) := by decide +kernel
theorem dX8_block_476 : decode cX8_block 476 = .ok (.land, 1) := by decide +kernel
theorem dX8_block_477 : decode cX8_block 477 = .ok (.lstore 12, 2) := by decide +kernel
theorem dX8_block_479 : decode cX8_block 479 = .ok (.lload 8, 2) := by decide +kernel
theorem dX8_block_481 : decode cX8_block 481 = .ok (.lstore 10, 2) := by decide +kernel
theorem dX8_block_483 : decode cX8_block 483 = .ok (.lload 6, 2) := by decide +kernel
theorem dX8_block_485 : decode cX8_block 485 = .ok (.lstore 8, 2) := by decide +kernel
theorem dX8_block_487 : decode cX8_block 487 = .ok (.lload 4, 2) := by decide +kernel
theorem dX8_block_489 : decode cX8_block 489 = .ok (.lstore 6, 2) := by decide +kernel
theorem dX8_block_491 : decode cX8_block 491 = .ok (.lload 21, 2) := by decide +kernel
theorem dX8_block_493 : decode cX8_block 493 = .ok (.lload 23, 2) := by decide +kernel
theorem dX8_block_495 : decode cX8_block 495 = .ok (.ladd, 1) := by decide +kernel
theorem dX8_block_496 : decode cX8_block 496 = .ok (.ldc2_w 115, 3) := by decide +kernel
theorem dX8_block_499 : decode cX8_block 499 = .ok (.land, 1) := by decide +kernel
theorem dX8_block_500 : decode cX8_block 500 = .ok (.lstore 4, 2) := by decide +kernel
theorem dX8_block_502 : decode cX8_block 502 = .ok (.iinc 20 1, 3) := by decide +kernel
theorem dX8_block_505 : decode cX8_block 505 = .ok (.goto (-162), 3) := by decide +kernel
theorem dX8_block_508 : decode cX8_block 508 = .ok (.aload_n 0, 1) := by decide +kernel
theorem dX8_block_509 : decode cX8_block 509 = .ok (.getfield 19, 3) := by decide +kernel
theorem dX8_block_512 : decode cX8_block 512 = .ok (.iconst 0, 1) := by decide +kernel
theorem dX8_block_513 : decode cX8_block 513 = .ok (.aload_n 0, 1) := by decide +kernel
theorem dX8_block_514 : decode cX8_block 514 = .ok (.getfield 19, 3) := by decide +kernel
theorem dX8_block_517 : decode cX8_block 517 = .ok (.iconst 0, 1) := by decide +kernel
theorem dX8_block_518 : decode cX8_block 518 = .ok (.laload, 1) := by decide +kernel
theorem dX8_block_519 : decode cX8_block 519 = .ok (.lload 4, 2) := by decide +kernel
theorem dX8_block_521 : decode cX8_block 521 = .ok (.ladd, 1) := by decide +kernel
theorem dX8_block_522 : decode cX8_block 522 = .ok (.ldc2_w 115, 3) := by decide +kernel
theorem dX8_block_525 : decode cX8_block 525 = .ok (.land, 1) := by decide +kernel
theorem dX8_block_526 : decode cX8_block 526 = .ok (.lastore, 1) := by decide +kernel
theorem dX8_block_527 : decode cX8_block 527 = .ok (.aload_n 0, 1) := by decide +kernel
theorem dX8_block_528 : decode cX8_block 528 = .ok (.getfield 19, 3) := by decide +kernel
theorem dX8_block_531 : decode cX8_block 531 = .ok (.iconst 1, 1) := by decide +kernel
theorem dX8_block_532 : decode cX8_block 532 = .ok (.aload_n 0, 1) := by decide +kernel
theorem dX8_block_533 : decode cX8_block 533 = .ok (.getfield 19, 3) := by decide +kernel
theorem dX8_block_536 : decode cX8_block 536 = .ok (.iconst 1, 1) := by decide +kernel
theorem dX8_block_537 : decode cX8_block 537 = .ok (.laload, 1) := by decide +kernel
theorem dX8_block_538 : decode cX8_block 538 = .ok (.lload 6, 2) := by decide +kernel
theorem dX8_block_540 : decode cX8_block 540 = .ok (.ladd, 1) := by decide +kernel
theorem dX8_block_541 : decode cX8_block 541 = .ok (.ldc2_w 115, 3) := by decide +kernel
theorem dX8_block_544 : decode cX8_block 544 = .ok (.land, 1) := by decide +kernel
theorem dX8_block_545 : decode cX8_block 545 = .ok (.lastore, 1) := by decide +kernel
theorem dX8_block_546 : decode cX8_block 546 = .ok (.aload_n 0, 1) := by decide +kernel
theorem dX8_block_547 : decode cX8_block 547 = .ok (.getfield 19, 3) := by decide +kernel
theorem dX8_block_550 : decode cX8_block 550 = .ok (.iconst 2, 1) := by decide +kernel
theorem dX8_block_551 : decode cX8_block 551 = .ok (.aload_n 0, 1) := by decide +kernel
theorem dX8_block_552 : decode cX8_block 552 = .ok (.getfield 19, 3) := by decide +kernel
theorem dX8_block_555 : decode cX8_block 555 = .ok (.iconst 2, 1) := by decide +kernel
theorem dX8_block_556 : decode cX8_block 556 = .ok (.laload, 1) := by decide +kernel
theorem dX8_block_557 : decode cX8_block 557 = .ok (.lload 8, 2) := by decide +kernel
theorem dX8_block_559 : decode cX8_block 559 = .ok (.ladd, 1) := by decide +kernel
theorem dX8_block_560 : decode cX8_block 560 = .ok (.ldc2_w 115, 3) := by decide +kernel
theorem dX8_block_563 : decode cX8_block 563 = .ok (.land, 1) := by decide +kernel
theorem dX8_block_564 : decode cX8_block 564 = .ok (.lastore, 1) := by decide +kernel
theorem dX8_block_565 : decode cX8_block 565 = .ok (.aload_n 0, 1) := by decide +kernel
theorem dX8_block_566 : decode cX8_block 566 = .ok (.getfield 19, 3) := by decide +kernel
theorem dX8_block_569 : decode cX8_block 569 = .ok (.iconst 3, 1) := by decide +kernel
theorem dX8_block_570 : decode cX8_block 570 = .ok (.aload_n 0, 1) := by decide +kernel
theorem dX8_block_571 : decode cX8_block 571 = .ok (.getfield 19, 3) := by decide +kernel
theorem dX8_block_574 : decode cX8_block 574 = .ok (.iconst 3, 1) := by decide +kernel
theorem dX8_block_575 : decode cX8_block 575 = .ok (.laload, 1) := by decide +kernel
theorem dX8_block_576 : decode cX8_block 576 = .ok (.lload 10, 2) := by decide +kernel
theorem dX8_block_578 : decode cX8_block 578 = .ok (.ladd, 1) := by decide +kernel
theorem dX8_block_579 : decode cX8_block 579 = .ok (.ldc2_w 115, 3) := by decide +kernel
theorem dX8_block_582 : decode cX8_block 582 = .ok (.land, 1) := by decide +kernel
theorem dX8_block_583 : decode cX8_block 583 = .ok (.lastore, 1) := by decide +kernel
theorem dX8_block_584 : decode cX8_block 584 = .ok (.aload_n 0, 1) := by decide +kernel
theorem dX8_block_585 : decode cX8_block 585 = .ok (.getfield 19, 3) := by decide +kernel
theorem dX8_block_588 : decode cX8_block 588 = .ok (.iconst 4, 1) := by decide +kernel
theorem dX8_block_589 : decode cX8_block 589 = .ok (.aload_n 0, 1) := by decide +kernel
theorem dX8_block_590 : decode cX8_block 590 = .ok (.getfield 19, 3) := by decide +kernel
theorem dX8_block_593 : decode cX8_block 593 = .ok (.iconst 4, 1) := by decide +kernel
theorem dX8_block_594 : decode cX8_block 594 = .ok (.laload, 1) := by decide +kernel
theorem dX8_block_595 : decode cX8_block 595 = .ok (.lload 12, 2) := by decide +kernel
theorem dX8_block_597 : decode cX8_block 597 = .ok (.ladd, 1) := by decide +kernel
theorem dX8_block_598 : decode cX8_block 598 = .ok (.ldc2_w 115, 3) := by decide +kernel
theorem dX8_block_601 : decode cX8_block 601 = .ok (.land, 1) := by decide +kernel
theorem dX8_block_602 : decode cX8_block 602 = .ok (.lastore, 1) := by decide +kernel
theorem dX8_block_603 : decode cX8_block 603 = .ok (.aload_n 0, 1) := by decide +kernel
theorem dX8_block_604 : decode cX8_block 604 = .ok (.getfield 19, 3) := by decide +kernel
theorem dX8_block_607 : decode cX8_block 607 = .ok (.iconst 5, 1) := by decide +kernel
theorem dX8_block_608 : decode cX8_block 608 = .ok (.aload_n 0, 1) := by decide +kernel
theorem dX8_block_609 : decode cX8_block 609 = .ok (.getfield 19, 3) := by decide +kernel
theorem dX8_block_612 : decode cX8_block 612 = .ok (.iconst 5, 1) := by decide +kernel
theorem dX8_block_613 : decode cX8_block 613 = .ok (.laload, 1) := by decide +kernel
theorem dX8_block_614 : decode cX8_block 614 = .ok (.lload 14, 2) := by decide +kernel
theorem dX8_block_616 : decode cX8_block 616 = .ok (.ladd, 1) := by decide +kernel
theorem dX8_block_617 : decode cX8_block 617 = .ok (.ldc2_w 115, 3) := by decide +kernel
theorem dX8_block_620 : decode cX8_block 620 = .ok (.land, 1) := by decide +kernel
theorem dX8_block_621 : decode cX8_block 621 = .ok (.lastore, 1) := by decide +kernel
theorem dX8_block_622 : decode cX8_block 622 = .ok (.aload_n 0, 1) := by decide +kernel
theorem dX8_block_623 : decode cX8_block 623 = .ok (.getfield 19, 3) := by decide +kernel
theorem dX8_block_626 : decode cX8_block 626 = .ok (.bipush 6, 2) := by decide +kernel
theorem dX8_block_628 : decode cX8_block 628 = .ok (.aload_n 0, 1) := by decide +kernel
theorem dX8_block_629 : decode cX8_block 629 = .ok (.getfield 19, 3) := by decide +kernel
theorem dX8_block_632 : decode cX8_block 632 = .ok (.bipush 6, 2) := by decide +kernel
theorem dX8_block_634 : decode cX8_block 634 = .ok (.laload, 1) := by decide +kernel
theorem dX8_block_635 : decode cX8_block 635 = .ok (.lload 16, 2) := by decide +kernel
theorem dX8_block_637 : decode cX8_block 637 = .ok (.ladd, 1) := by decide +kernel
theorem dX8_block_638 : decode cX8_block 638 = .ok (.ldc2_w 115, 3) := by decide +kernel
theorem dX8_block_641 : decode cX8_block 641 = .ok (.land, 1) := by decide +kernel
theorem dX8_block_642 : decode cX8_block 642 = .ok (.lastore, 1) := by decide +kernel
theorem dX8_block_643 : decode cX8_block 643 = .ok (.aload_n 0, 1) := by decide +kernel
theorem dX8_block_644 : decode cX8_block 644 = .ok (.getfield 19, 3) := by decide +kernel
theorem dX8_block_647 : decode cX8_block 647 = .ok (.bipush 7, 2) := by decide +kernel
theorem dX8_block_649 : decode cX8_block 649 = .ok (.aload_n 0, 1) := by decide +kernel
theorem dX8_block_650 : decode cX8_block 650 = .ok (.getfield 19, 3) := by decide +kernel
theorem dX8_block_653 : decode cX8_block 653 = .ok (.bipush 7, 2) := by decide +kernel
theorem dX8_block_655 : decode cX8_block 655 = .ok (.laload, 1) := by decide +kernel
theorem dX8_block_656 : decode cX8_block 656 = .ok (.lload 18, 2) := by decide +kernel
theorem dX8_block_658 : decode cX8_block 658 = .ok (.ladd, 1) := by decide +kernel
theorem dX8_block_659 : decode cX8_block 659 = .ok (.ldc2_w 115, 3) := by decide +kernel
theorem dX8_block_662 : decode cX8_block 662 = .ok (.land, 1) := by decide +kernel
theorem dX8_block_663 : decode cX8_block 663 = .ok (.lastore, 1) := by decide +kernel
theorem dX8_block_664 : decode cX8_block 664 = .ok (.return_, 1) := by decide +kernel
theorem dX8_hashTo_0 : decode cX8_hashTo 0 = .ok (.iconst 0, 1) := by decide +kernel
theorem dX8_hashTo_1 : decode cX8_hashTo 1 = .ok (.istore_n 3, 1) := by decide +kernel
theorem dX8_hashTo_2 : decode cX8_hashTo 2 = .ok (.iload_n 3, 1) := by decide +kernel
theorem dX8_hashTo_3 : decode cX8_hashTo 3 = .ok (.bipush 8, 2) := by decide +kernel
theorem dX8_hashTo_5 : decode cX8_hashTo 5 = .ok (.if_icmp .ge 25, 3) := by decide +kernel
theorem dX8_hashTo_8 : decode cX8_hashTo 8 = .ok (.aload_n 0, 1) := by decide +kernel
theorem dX8_hashTo_9 : decode cX8_hashTo 9 = .ok (.getfield 19, 3) := by decide +kernel
theorem dX8_hashTo_12 : decode cX8_hashTo 12 = .ok (.iload_n 3, 1) := by decide +kernel
theorem dX8_hashTo_13 : decode cX8_hashTo 13 = .ok (.getstatic 124, 3) := by decide +kernel
theorem dX8_hashTo_16 : decode cX8_hashTo 16 = .ok (.iload_n 3, 1) := by decide +kernel
theorem dX8_hashTo_17 : decode cX8_hashTo 17 = .ok (.iaload, 1) := by decide +kernel
theorem dX8_hashTo_18 : decode cX8_hashTo 18 = .ok (.i2l, 1) := by decide +kernel
theorem dX8_hashTo_19 : decode cX8_hashTo 19 = .ok (.ldc2_w 115, 3) := by decide +kernel
theorem dX8_hashTo_22 : decode cX8_hashTo 22 = .ok (.land, 1) := by decide +kernel
theorem dX8_hashTo_23 : decode cX8_hashTo 23 = .ok (.lastore, 1) := by decide +kernel
theorem dX8_hashTo_24 : decode cX8_hashTo 24 = .ok (.iinc 3 1, 3) := by decide +kernel
theorem dX8_hashTo_27 : decode cX8_hashTo 27 = .ok (.goto (-25), 3) := by decide +kernel
theorem dX8_hashTo_30 : decode cX8_hashTo 30 = .ok (.aload_n 0, 1) := by decide +kernel
theorem dX8_hashTo_31 : decode cX8_hashTo 31 = .ok (.getfield 100, 3) := by decide +kernel
theorem dX8_hashTo_34 : decode cX8_hashTo 34 = .ok (.bipush 72, 2) := by decide +kernel
theorem dX8_hashTo_36 : decode cX8_hashTo 36 = .ok (.iadd, 1) := by decide +kernel
theorem dX8_hashTo_37 : decode cX8_hashTo 37 = .ok (.bipush 64, 2) := by decide +kernel
theorem dX8_hashTo_39 : decode cX8_hashTo 39 = .ok (.idiv, 1) := by decide +kernel
theorem dX8_hashTo_40 : decode cX8_hashTo 40 = .ok (.bipush 64, 2) := by decide +kernel
theorem dX8_hashTo_42 : decode cX8_hashTo 42 = .ok (.imul, 1) := by decide +kernel
theorem dX8_hashTo_43 : decode cX8_hashTo 43 = .ok (.istore_n 3, 1) := by decide +kernel
theorem dX8_hashTo_44 : decode cX8_hashTo 44 = .ok (.iconst 0, 1) := by decide +kernel
theorem dX8_hashTo_45 : decode cX8_hashTo 45 = .ok (.istore 4, 2) := by decide +kernel
theorem dX8_hashTo_47 : decode cX8_hashTo 47 = .ok (.iload 4, 2) := by decide +kernel
theorem dX8_hashTo_49 : decode cX8_hashTo 49 = .ok (.iload_n 3, 1) := by decide +kernel
theorem dX8_hashTo_50 : decode cX8_hashTo 50 = .ok (.if_icmp .ge 20, 3) := by decide +kernel
theorem dX8_hashTo_53 : decode cX8_hashTo 53 = .ok (.aload_n 0, 1) := by decide +kernel
theorem dX8_hashTo_54 : decode cX8_hashTo 54 = .ok (.iload 4, 2) := by decide +kernel
theorem dX8_hashTo_56 : decode cX8_hashTo 56 = .ok (.aload_n 0, 1) := by decide +kernel
theorem dX8_hashTo_57 : decode cX8_hashTo 57 = .ok (.getfield 100, 3) := by decide +kernel
theorem dX8_hashTo_60 : decode cX8_hashTo 60 = .ok (.iload_n 3, 1) := by decide +kernel
theorem dX8_hashTo_61 : decode cX8_hashTo 61 = .ok (.invokevirtual 127, 3) := by decide +kernel
theorem dX8_hashTo_64 : decode cX8_hashTo 64 = .ok (.iinc 4 64, 3) := by decide +kernel
theorem dX8_hashTo_67 : decode cX8_hashTo 67 = .ok (.goto (-20), 3) := by decide +kernel
theorem dX8_hashTo_70 : decode cX8_hashTo 70 = .ok (.iconst 0, 1) := by decide +kernel
theorem dX8_hashTo_71 : decode cX8_hashTo 71 = .ok (.istore 4, 2) := by decide +kernel
theorem dX8_hashTo_73 : decode cX8_hashTo 73 = .ok (.iload 4, 2) := by decide +kernel
theorem dX8_hashTo_75 : decode cX8_hashTo 75 = .ok (.bipush 32, 2) := by decide +kernel
theorem dX8_hashTo_77 : decode cX8_hashTo 77 = .ok (.if_icmp .ge 37, 3) := by decide +kernel
theorem dX8_hashTo_80 : decode cX8_hashTo 80 = .ok (.aload_n 1, 1) := by decide +kernel
theorem dX8_hashTo_81 : decode cX8_hashTo 81 = .ok (.iload_n 2, 1) := by decide +kernel
theorem dX8_hashTo_82 : decode cX8_hashTo 82 = .ok (.iload 4, 2) := by decide +kernel
theorem dX8_hashTo_84 : decode cX8_hashTo 84 = .ok (.iadd, 1) := by decide +kernel
theorem dX8_hashTo_85 : decode cX8_hashTo 85 = .ok (.aload_n 0, 1) := by decide +kernel
theorem dX8_hashTo_86 : decode cX8_hashTo 86 = .ok (.getfield 19, 3) := by decide +kernel
theorem dX8_hashTo_89 : decode cX8_hashTo 89 = .ok (.iload 4, 2) := by decide +kernel
theorem dX8_hashTo_91 : decode cX8_hashTo 91 = .ok (.iconst 4, 1) := by decide +kernel
theorem dX8_hashTo_92 : decode cX8_hashTo 92 = .ok (.idiv, 1) := by decide +kernel
theorem dX8_hashTo_93 : decode cX8_hashTo 93 = .ok (.laload, 1) := by decide +kernel
theorem dX8_hashTo_94 : decode cX8_hashTo 94 = .ok (.bipush 24, 2) := by decide +kernel
theorem dX8_hashTo_96 : decode cX8_hashTo 96 = .ok (.bipush 8, 2) := by decide +kernel
theorem dX8_hashTo_98 : decode cX8_hashTo 98 = .ok (.iload 4, 2) := by decide +kernel
theorem dX8_hashTo_100 : decode cX8_hashTo 100 = .ok (.iconst 4, 1) := by decide +kernel
theorem dX8_hashTo_101 : decode cX8_hashTo 101 = .ok (.irem, 1) := by decide +kernel
theorem dX8_hashTo_102 : decode cX8_hashTo 102 = .ok (.imul, 1) := by decide +kernel
theorem dX8_hashTo_103 : decode cX8_hashTo 103 = .ok (.isub, 1) := by decide +kernel
theorem dX8_hashTo_104 : decode cX8_hashTo 104 = .ok (.lshr, 1) := by decide +kernel
theorem dX8_hashTo_105 : decode cX8_hashTo 105 = .ok (.l2i, 1) := by decide +kernel
theorem dX8_hashTo_106 : decode cX8_hashTo 106 = .ok (.i2b, 1) := by decide +kernel
theorem dX8_hashTo_107 : decode cX8_hashTo 107 = .ok (.bastore, 1) := by decide +kernel
theorem dX8_hashTo_108 : decode cX8_hashTo 108 = .ok (.iinc 4 1, 3) := by decide +kernel
theorem dX8_hashTo_111 : decode cX8_hashTo 111 = .ok (.goto (-38), 3) := by decide +kernel
theorem dX8_hashTo_114 : decode cX8_hashTo 114 = .ok (.return_, 1) := by decide +kernel
theorem dX8_macTo_0 : decode cX8_macTo 0 = .ok (.aload_n 0, 1) := by decide +kernel
theorem dX8_macTo_1 : decode cX8_macTo 1 = .ok (.iconst 0, 1) := by decide +kernel
theorem dX8_macTo_2 : decode cX8_macTo 2 = .ok (.putfield 100, 3) := by decide +kernel
theorem dX8_macTo_5 : decode cX8_macTo 5 = .ok (.iconst 0, 1) := by decide +kernel
theorem dX8_macTo_6 : decode cX8_macTo 6 = .ok (.istore_n 3, 1) := by decide +kernel
theorem dX8_macTo_7 : decode cX8_macTo 7 = .ok (.iload_n 3, 1) := by decide +kernel
theorem dX8_macTo_8 : decode cX8_macTo 8 = .ok (.bipush 64, 2) := by decide +kernel
theorem dX8_macTo_10 : decode cX8_macTo 10 = .ok (.if_icmp .ge 32, 3) := by decide +kernel
theorem dX8_macTo_13 : decode cX8_macTo 13 = .ok (.aload_n 0, 1) := by decide +kernel
theorem dX8_macTo_14 : decode cX8_macTo 14 = .ok (.iload_n 3, 1) := by decide +kernel
theorem dX8_macTo_15 : decode cX8_macTo 15 = .ok (.bipush 32, 2) := by decide +kernel
theorem dX8_macTo_17 : decode cX8_macTo 17 = .ok (.if_icmp .ge 12, 3) := by decide +kernel
theorem dX8_macTo_20 : decode cX8_macTo 20 = .ok (.aload_n 0, 1) := by decide +kernel
theorem dX8_macTo_21 : decode cX8_macTo 21 = .ok (.getfield 29, 3) := by decide +kernel
theorem dX8_macTo_24 : decode cX8_macTo 24 = .ok (.iload_n 3, 1) := by decide +kernel
theorem dX8_macTo_25 : decode cX8_macTo 25 = .ok (.baload, 1) := by decide +kernel
theorem dX8_macTo_26 : decode cX8_macTo 26 = .ok (.goto 4, 3) := by decide +kernel
theorem dX8_macTo_29 : decode cX8_macTo 29 = .ok (.iconst 0, 1) := by decide +kernel
theorem dX8_macTo_30 : decode cX8_macTo 30 = .ok (.bipush 54, 2) := by decide +kernel
theorem dX8_macTo_32 : decode cX8_macTo 32 = .ok (.ixor, 1) := by decide +kernel
theorem dX8_macTo_33 : decode cX8_macTo 33 = .ok (.invokevirtual 104, 3) := by decide +kernel
theorem dX8_macTo_36 : decode cX8_macTo 36 = .ok (.iinc 3 1, 3) := by decide +kernel
theorem dX8_macTo_39 : decode cX8_macTo 39 = .ok (.goto (-32), 3) := by decide +kernel
theorem dX8_macTo_42 : decode cX8_macTo 42 = .ok (.aload_n 0, 1) := by decide +kernel
theorem dX8_macTo_43 : decode cX8_macTo 43 = .ok (.aload_n 0, 1) := by decide +kernel
theorem dX8_macTo_44 : decode cX8_macTo 44 = .ok (.getfield 32, 3) := by decide +kernel
theorem dX8_macTo_47 : decode cX8_macTo 47 = .ok (.iconst 0, 1) := by decide +kernel
theorem dX8_macTo_48 : decode cX8_macTo 48 = .ok (.aload_n 0, 1) := by decide +kernel
theorem dX8_macTo_49 : decode cX8_macTo 49 = .ok (.getfield 131, 3) := by decide +kernel
theorem dX8_macTo_52 : decode cX8_macTo 52 = .ok (.invokevirtual 134, 3) := by decide +kernel
theorem dX8_macTo_55 : decode cX8_macTo 55 = .ok (.aload_n 0, 1) := by decide +kernel
theorem dX8_macTo_56 : decode cX8_macTo 56 = .ok (.aload_n 0, 1) := by decide +kernel
theorem dX8_macTo_57 : decode cX8_macTo 57 = .ok (.getfield 26, 3) := by decide +kernel
theorem dX8_macTo_60 : decode cX8_macTo 60 = .ok (.iconst 0, 1) := by decide +kernel
theorem dX8_macTo_61 : decode cX8_macTo 61 = .ok (.invokevirtual 111, 3) := by decide +kernel
theorem dX8_macTo_64 : decode cX8_macTo 64 = .ok (.aload_n 0, 1) := by decide +kernel
theorem dX8_macTo_65 : decode cX8_macTo 65 = .ok (.iconst 0, 1) := by decide +kernel
theorem dX8_macTo_66 : decode cX8_macTo 66 = .ok (.putfield 100, 3) := by decide +kernel
theorem dX8_macTo_69 : decode cX8_macTo 69 = .ok (.iconst 0, 1) := by decide +kernel
theorem dX8_macTo_70 : decode cX8_macTo 70 = .ok (.istore_n 3, 1) := by decide +kernel
theorem dX8_macTo_71 : decode cX8_macTo 71 = .ok (.iload_n 3, 1) := by decide +kernel
theorem dX8_macTo_72 : decode cX8_macTo 72 = .ok (.bipush 64, 2) := by decide +kernel
theorem dX8_macTo_74 : decode cX8_macTo 74 = .ok (.if_icmp .ge 32, 3) := by decide +kernel
theorem dX8_macTo_77 : decode cX8_macTo 77 = .ok (.aload_n 0, 1) := by decide +kernel
theorem dX8_macTo_78 : decode cX8_macTo 78 = .ok (.iload_n 3, 1) := by decide +kernel
theorem dX8_macTo_79 : decode cX8_macTo 79 = .ok (.bipush 32, 2) := by decide +kernel
theorem dX8_macTo_81 : decode cX8_macTo 81 = .ok (.if_icmp .ge 12, 3) := by decide +kernel
theorem dX8_macTo_84 : decode cX8_macTo 84 = .ok (.aload_n 0, 1) := by decide +kernel
theorem dX8_macTo_85 : decode cX8_macTo 85 = .ok (.getfield 29, 3) := by decide +kernel
theorem dX8_macTo_88 : decode cX8_macTo 88 = .ok (.iload_n 3, 1) := by decide +kernel
theorem dX8_macTo_89 : decode cX8_macTo 89 = .ok (.baload, 1) := by decide +kernel
theorem dX8_macTo_90 : decode cX8_macTo 90 = .ok (.goto 4, 3) := by decide +kernel
theorem dX8_macTo_93 : decode cX8_macTo 93 = .ok (.iconst 0, 1) := by decide +kernel
theorem dX8_macTo_94 : decode cX8_macTo 94 = .ok (.bipush 92, 2) := by decide +kernel
theorem dX8_macTo_96 : decode cX8_macTo 96 = .ok (.ixor, 1) := by decide +kernel
theorem dX8_macTo_97 : decode cX8_macTo 97 = .ok (.invokevirtual 104, 3) := by decide +kernel
theorem dX8_macTo_100 : decode cX8_macTo 100 = .ok (.iinc 3 1, 3) := by decide +kernel
theorem dX8_macTo_103 : decode cX8_macTo 103 = .ok (.goto (-32), 3) := by decide +kernel
theorem dX8_macTo_106 : decode cX8_macTo 106 = .ok (.aload_n 0, 1) := by decide +kernel
theorem dX8_macTo_107 : decode cX8_macTo 107 = .ok (.aload_n 0, 1) := by decide +kernel
theorem dX8_macTo_108 : decode cX8_macTo 108 = .ok (.getfield 26, 3) := by decide +kernel
theorem dX8_macTo_111 : decode cX8_macTo 111 = .ok (.iconst 0, 1) := by decide +kernel
theorem dX8_macTo_112 : decode cX8_macTo 112 = .ok (.bipush 32, 2) := by decide +kernel
theorem dX8_macTo_114 : decode cX8_macTo 114 = .ok (.invokevirtual 134, 3) := by decide +kernel
theorem dX8_macTo_117 : decode cX8_macTo 117 = .ok (.aload_n 0, 1) := by decide +kernel
theorem dX8_macTo_118 : decode cX8_macTo 118 = .ok (.aload_n 1, 1) := by decide +kernel
theorem dX8_macTo_119 : decode cX8_macTo 119 = .ok (.iload_n 2, 1) := by decide +kernel
theorem dX8_macTo_120 : decode cX8_macTo 120 = .ok (.invokevirtual 111, 3) := by decide +kernel
theorem dX8_macTo_123 : decode cX8_macTo 123 = .ok (.return_, 1) := by decide +kernel
theorem dX8_macSeed_0 : decode cX8_macSeed 0 = .ok (.iconst 0, 1) := by decide +kernel
theorem dX8_macSeed_1 : decode cX8_macSeed 1 = .ok (.istore_n 2, 1) := by decide +kernel
theorem dX8_macSeed_2 : decode cX8_macSeed 2 = .ok (.iload_n 2, 1) := by decide +kernel
theorem dX8_macSeed_3 : decode cX8_macSeed 3 = .ok (.bipush 32, 2) := by decide +kernel
theorem dX8_macSeed_5 : decode cX8_macSeed 5 = .ok (.if_icmp .ge 21, 3) := by decide +kernel
theorem dX8_macSeed_8 : decode cX8_macSeed 8 = .ok (.aload_n 0, 1) := by decide +kernel
theorem dX8_macSeed_9 : decode cX8_macSeed 9 = .ok (.getfield 29, 3) := by decide +kernel
theorem dX8_macSeed_12 : decode cX8_macSeed 12 = .ok (.iload_n 2, 1) := by decide +kernel
theorem dX8_macSeed_13 : decode cX8_macSeed 13 = .ok (.aload_n 0, 1) := by decide +kernel
theorem dX8_macSeed_14 : decode cX8_macSeed 14 = .ok (.getfield 35, 3) := by decide +kernel
theorem dX8_macSeed_17 : decode cX8_macSeed 17 = .ok (.iload_n 2, 1) := by decide +kernel
theorem dX8_macSeed_18 : decode cX8_macSeed 18 = .ok (.baload, 1) := by decide +kernel
theorem dX8_macSeed_19 : decode cX8_macSeed 19 = .ok (.bastore, 1) := by decide +kernel
theorem dX8_macSeed_20 : decode cX8_macSeed 20 = .ok (.iinc 2 1, 3) := by decide +kernel
theorem dX8_macSeed_23 : decode cX8_macSeed 23 = .ok (.goto (-21), 3) := by decide +kernel
theorem dX8_macSeed_26 : decode cX8_macSeed 26 = .ok (.aload_n 0, 1) := by decide +kernel
theorem dX8_macSeed_27 : decode cX8_macSeed 27 = .ok (.getfield 32, 3) := by decide +kernel
theorem dX8_macSeed_30 : decode cX8_macSeed 30 = .ok (.iconst 0, 1) := by decide +kernel
theorem dX8_macSeed_31 : decode cX8_macSeed 31 = .ok (.iload_n 1, 1) := by decide +kernel
theorem dX8_macSeed_32 : decode cX8_macSeed 32 = .ok (.i2b, 1) := by decide +kernel
theorem dX8_macSeed_33 : decode cX8_macSeed 33 = .ok (.bastore, 1) := by decide +kernel
theorem dX8_macSeed_34 : decode cX8_macSeed 34 = .ok (.aload_n 0, 1) := by decide +kernel
theorem dX8_macSeed_35 : decode cX8_macSeed 35 = .ok (.iconst 1, 1) := by decide +kernel
theorem dX8_macSeed_36 : decode cX8_macSeed 36 = .ok (.putfield 131, 3) := by decide +kernel
theorem dX8_macSeed_39 : decode cX8_macSeed 39 = .ok (.return_, 1) := by decide +kernel
theorem dX8_same_0 : decode cX8_same 0 = .ok (.iconst 0, 1) := by decide +kernel
theorem dX8_same_1 : decode cX8_same 1 = .ok (.istore 4, 2) := by decide +kernel
theorem dX8_same_3 : decode cX8_same 3 = .ok (.iload 4, 2) := by decide +kernel
theorem dX8_same_5 : decode cX8_same 5 = .ok (.bipush 32, 2) := by decide +kernel
theorem dX8_same_7 : decode cX8_same 7 = .ok (.if_icmp .ge 26, 3) := by decide +kernel
theorem dX8_same_10 : decode cX8_same 10 = .ok (.aload_n 0, 1) := by decide +kernel
theorem dX8_same_11 : decode cX8_same 11 = .ok (.iload_n 1, 1) := by decide +kernel
theorem dX8_same_12 : decode cX8_same 12 = .ok (.iload 4, 2) := by decide +kernel
theorem dX8_same_14 : decode cX8_same 14 = .ok (.iadd, 1) := by decide +kernel
theorem dX8_same_15 : decode cX8_same 15 = .ok (.baload, 1) := by decide +kernel
theorem dX8_same_16 : decode cX8_same 16 = .ok (.aload_n 2, 1) := by decide +kernel
theorem dX8_same_17 : decode cX8_same 17 = .ok (.iload_n 3, 1) := by decide +kernel
theorem dX8_same_18 : decode cX8_same 18 = .ok (.iload 4, 2) := by decide +kernel
theorem dX8_same_20 : decode cX8_same 20 = .ok (.iadd, 1) := by decide +kernel
theorem dX8_same_21 : decode cX8_same 21 = .ok (.baload, 1) := by decide +kernel
theorem dX8_same_22 : decode cX8_same 22 = .ok (.if_icmp .eq 5, 3) := by decide +kernel
theorem dX8_same_25 : decode cX8_same 25 = .ok (.iconst 0, 1) := by decide +kernel
theorem dX8_same_26 : decode cX8_same 26 = .ok (.ireturn, 1) := by decide +kernel
theorem dX8_same_27 : decode cX8_same 27 = .ok (.iinc 4 1, 3) := by decide +kernel
theorem dX8_same_30 : decode cX8_same 30 = .ok (.goto (-27), 3) := by decide +kernel
theorem dX8_same_33 : decode cX8_same 33 = .ok (.iconst 1, 1) := by decide +kernel
theorem dX8_same_34 : decode cX8_same 34 = .ok (.ireturn, 1) := by decide +kernel
theorem dX8_tapeHash_0 : decode cX8_tapeHash 0 = .ok (.aload_n 0, 1) := by decide +kernel
theorem dX8_tapeHash_1 : decode cX8_tapeHash 1 = .ok (.iconst 0, 1) := by decide +kernel
theorem dX8_tapeHash_2 : decode cX8_tapeHash 2 = .ok (.putfield 100, 3) := by decide +kernel
theorem dX8_tapeHash_5 : decode cX8_tapeHash 5 = .ok (.aload_n 0, 1) := by decide +kernel
theorem dX8_tapeHash_6 : decode cX8_tapeHash 6 = .ok (.aload_n 0, 1) := by decide +kernel
theorem dX8_tapeHash_7 : decode cX8_tapeHash 7 = .ok (.getfield 9, 3) := by decide +kernel
theorem dX8_tapeHash_10 : decode cX8_tapeHash 10 = .ok (.iconst 0, 1) := by decide +kernel
theorem dX8_tapeHash_11 : decode cX8_tapeHash 11 = .ok (.aload_n 0, 1) := by decide +kernel
theorem dX8_tapeHash_12 : decode cX8_tapeHash 12 = .ok (.getfield 137, 3) := by decide +kernel
theorem dX8_tapeHash_15 : decode cX8_tapeHash 15 = .ok (.invokevirtual 134, 3) := by decide +kernel
theorem dX8_tapeHash_18 : decode cX8_tapeHash 18 = .ok (.aload_n 0, 1) := by decide +kernel
theorem dX8_tapeHash_19 : decode cX8_tapeHash 19 = .ok (.aload_n 1, 1) := by decide +kernel
theorem dX8_tapeHash_20 : decode cX8_tapeHash 20 = .ok (.iload_n 2, 1) := by decide +kernel
theorem dX8_tapeHash_21 : decode cX8_tapeHash 21 = .ok (.invokevirtual 111, 3) := by decide +kernel
theorem dX8_tapeHash_24 : decode cX8_tapeHash 24 = .ok (.return_, 1) := by decide +kernel
theorem dX8_put_0 : decode cX8_put 0 = .ok (.bipush 24, 2) := by decide +kernel
theorem dX8_put_2 : decode cX8_put 2 = .ok (.istore_n 2, 1) := by decide +kernel
theorem dX8_put_3 : decode cX8_put 3 = .ok (.iload_n 2, 1) := by decide +kernel
theorem dX8_put_4 : decode cX8_put 4 = .ok (.ifCond .lt 32, 3) := by decide +kernel
theorem dX8_put_7 : decode cX8_put 7 = .ok (.aload_n 0, 1) := by decide +kernel
theorem dX8_put_8 : decode cX8_put 8 = .ok (.getfield 9, 3) := by decide +kernel
theorem dX8_put_11 : decode cX8_put 11 = .ok (.aload_n 0, 1) := by decide +kernel
theorem dX8_put_12 : decode cX8_put 12 = .ok (.getfield 137, 3) := by decide +kernel
theorem dX8_put_15 : decode cX8_put 15 = .ok (.iload_n 1, 1) := by decide +kernel
theorem dX8_put_16 : decode cX8_put 16 = .ok (.iload_n 2, 1) := by decide +kernel
theorem dX8_put_17 : decode cX8_put 17 = .ok (.ishr, 1) := by decide +kernel
theorem dX8_put_18 : decode cX8_put 18 = .ok (.i2b, 1) := by decide +kernel
theorem dX8_put_19 : decode cX8_put 19 = .ok (.bastore, 1) := by decide +kernel
theorem dX8_put_20 : decode cX8_put 20 = .ok (.aload_n 0, 1) := by decide +kernel
theorem dX8_put_21 : decode cX8_put 21 = .ok (.dup, 1) := by decide +kernel
theorem dX8_put_22 : decode cX8_put 22 = .ok (.getfield 137, 3) := by decide +kernel
theorem dX8_put_25 : decode cX8_put 25 = .ok (.iconst 1, 1) := by decide +kernel
theorem dX8_put_26 : decode cX8_put 26 = .ok (.iadd, 1) := by decide +kernel
theorem dX8_put_27 : decode cX8_put 27 = .ok (.putfield 137, 3) := by decide +kernel
theorem dX8_put_30 : decode cX8_put 30 = .ok (.iinc 2 (-8), 3) := by decide +kernel
theorem dX8_put_33 : decode cX8_put 33 = .ok (.goto (-30), 3) := by decide +kernel
theorem dX8_put_36 : decode cX8_put 36 = .ok (.return_, 1) := by decide +kernel
theorem dX8_feed_0 : decode cX8_feed 0 = .ok (.aload_n 0, 1) := by decide +kernel
theorem dX8_feed_1 : decode cX8_feed 1 = .ok (.getfield 137, 3) := by decide +kernel
theorem dX8_feed_4 : decode cX8_feed 4 = .ok (.bipush 20, 2) := by decide +kernel
theorem dX8_feed_6 : decode cX8_feed 6 = .ok (.iadd, 1) := by decide +kernel
theorem dX8_feed_7 : decode cX8_feed 7 = .ok (.sipush 400, 3) := by decide +kernel
theorem dX8_feed_10 : decode cX8_feed 10 = .ok (.if_icmp .le 6, 3) := by decide +kernel
theorem dX8_feed_13 : decode cX8_feed 13 = .ok (.bipush (-3), 2) := by decide +kernel
theorem dX8_feed_15 : decode cX8_feed 15 = .ok (.ireturn, 1) := by decide +kernel
theorem dX8_feed_16 : decode cX8_feed 16 = .ok (.aload_n 0, 1) := by decide +kernel
theorem dX8_feed_17 : decode cX8_feed 17 = .ok (.iload_n 1, 1) := by decide +kernel
theorem dX8_feed_18 : decode cX8_feed 18 = .ok (.invokevirtual 140, 3) := by decide +kernel
theorem dX8_feed_21 : decode cX8_feed 21 = .ok (.aload_n 0, 1) := by decide +kernel
theorem dX8_feed_22 : decode cX8_feed 22 = .ok (.iload_n 2, 1) := by decide +kernel
theorem dX8_feed_23 : decode cX8_feed 23 = .ok (.invokevirtual 140, 3) := by decide +kernel
theorem dX8_feed_26 : decode cX8_feed 26 = .ok (.aload_n 0, 1) := by decide +kernel
theorem dX8_feed_27 : decode cX8_feed 27 = .ok (.iload_n 3, 1) := by decide +kernel
theorem dX8_feed_28 : decode cX8_feed 28 = .ok (.invokevirtual 140, 3) := by decide +kernel
theorem dX8_feed_31 : decode cX8_feed 31 = .ok (.aload_n 0, 1) := by decide +kernel
theorem dX8_feed_32 : decode cX8_feed 32 = .ok (.iload 4, 2) := by decide +kernel
theorem dX8_feed_34 : decode cX8_feed 34 = .ok (.invokevirtual 140, 3) := by decide +kernel
theorem dX8_feed_37 : decode cX8_feed 37 = .ok (.aload_n 0, 1) := by decide +kernel
theorem dX8_feed_38 : decode cX8_feed 38 = .ok (.iload 5, 2) := by decide +kernel
theorem dX8_feed_40 : decode cX8_feed 40 = .ok (.invokevirtual 140, 3) := by decide +kernel
theorem dX8_feed_43 : decode cX8_feed 43 = .ok (.aload_n 0, 1) := by decide +kernel
theorem dX8_feed_44 : decode cX8_feed 44 = .ok (.getfield 137, 3) := by decide +kernel
theorem dX8_feed_47 : decode cX8_feed 47 = .ok (.ireturn, 1) := by decide +kernel
theorem dX8_end_0 : decode cX8_end 0 = .ok (.iload_n 1, 1) := by decide +kernel
theorem dX8_end_1 : decode cX8_end 1 = .ok (.ifCond .lt 11, 3) := by decide +kernel
theorem dX8_end_4 : decode cX8_end 4 = .ok (.iload_n 1, 1) := by decide +kernel
theorem dX8_end_5 : decode cX8_end 5 = .ok (.aload_n 0, 1) := by decide +kernel
theorem dX8_end_6 : decode cX8_end 6 = .ok (.getfield 137, 3) := by decide +kernel
theorem dX8_end_9 : decode cX8_end 9 = .ok (.if_icmp .le 5, 3) := by decide +kernel
theorem dX8_end_12 : decode cX8_end 12 = .ok (.iconst (-1), 1) := by decide +kernel
theorem dX8_end_13 : decode cX8_end 13 = .ok (.ireturn, 1) := by decide +kernel
theorem dX8_end_14 : decode cX8_end 14 = .ok (.aload_n 0, 1) := by decide +kernel
theorem dX8_end_15 : decode cX8_end 15 = .ok (.iload_n 1, 1) := by decide +kernel
theorem dX8_end_16 : decode cX8_end 16 = .ok (.putfield 137, 3) := by decide +kernel
theorem dX8_end_19 : decode cX8_end 19 = .ok (.iload_n 1, 1) := by decide +kernel
theorem dX8_end_20 : decode cX8_end 20 = .ok (.ireturn, 1) := by decide +kernel
theorem dX8_octet_0 : decode cX8_octet 0 = .ok (.iload_n 1, 1) := by decide +kernel
theorem dX8_octet_1 : decode cX8_octet 1 = .ok (.iconst (-1), 1) := by decide +kernel
theorem dX8_octet_2 : decode cX8_octet 2 = .ok (.if_icmp .ne 8, 3) := by decide +kernel
theorem dX8_octet_5 : decode cX8_octet 5 = .ok (.aload_n 0, 1) := by decide +kernel
theorem dX8_octet_6 : decode cX8_octet 6 = .ok (.getfield 143, 3) := by decide +kernel
theorem dX8_octet_9 : decode cX8_octet 9 = .ok (.ireturn, 1) := by decide +kernel
theorem dX8_octet_10 : decode cX8_octet 10 = .ok (.iload_n 1, 1) := by decide +kernel
theorem dX8_octet_11 : decode cX8_octet 11 = .ok (.ifCond .lt 11, 3) := by decide +kernel
theorem dX8_octet_14 : decode cX8_octet 14 = .ok (.iload_n 1, 1) := by decide +kernel
theorem dX8_octet_15 : decode cX8_octet 15 = .ok (.aload_n 0, 1) := by decide +kernel
theorem dX8_octet_16 : decode cX8_octet 16 = .ok (.getfield 143, 3) := by decide +kernel
theorem dX8_octet_19 : decode cX8_octet 19 = .ok (.if_icmp .lt 8, 3) := by decide +kernel
theorem dX8_octet_22 : decode cX8_octet 22 = .ok (.bipush (-2), 2) := by decide +kernel
theorem dX8_octet_24 : decode cX8_octet 24 = .ok (.goto 13, 3) := by decide +kernel
theorem dX8_octet_27 : decode cX8_octet 27 = .ok (.aload_n 0, 1) := by decide +kernel
theorem dX8_octet_28 : decode cX8_octet 28 = .ok (.getfield 13, 3) := by decide +kernel
theorem dX8_octet_31 : decode cX8_octet 31 = .ok (.iload_n 1, 1) := by decide +kernel
theorem dX8_octet_32 : decode cX8_octet 32 = .ok (.baload, 1) := by decide +kernel
theorem dX8_octet_33 : decode cX8_octet 33 = .ok (.sipush 255, 3) := by decide +kernel
theorem dX8_octet_36 : decode cX8_octet 36 = .ok (.iand, 1) := by decide +kernel
theorem dX8_octet_37 : decode cX8_octet 37 = .ok (.ireturn, 1) := by decide +kernel
theorem dX8_back_0 : decode cX8_back 0 = .ok (.aload_n 0, 1) := by decide +kernel
theorem dX8_back_1 : decode cX8_back 1 = .ok (.getfield 137, 3) := by decide +kernel
theorem dX8_back_4 : decode cX8_back 4 = .ok (.aload_n 0, 1) := by decide +kernel
theorem dX8_back_5 : decode cX8_back 5 = .ok (.getfield 143, 3) := by decide +kernel
theorem dX8_back_8 : decode cX8_back 8 = .ok (.iadd, 1) := by decide +kernel
theorem dX8_back_9 : decode cX8_back 9 = .ok (.sipush 400, 3) := by decide +kernel
theorem dX8_back_12 : decode cX8_back 12 = .ok (.if_icmp .le 6, 3) := by decide +kernel
theorem dX8_back_15 : decode cX8_back 15 = .ok (.bipush (-3), 2) := by decide +kernel
theorem dX8_back_17 : decode cX8_back 17 = .ok (.ireturn, 1) := by decide +kernel
theorem dX8_back_18 : decode cX8_back 18 = .ok (.iconst 0, 1) := by decide +kernel
theorem dX8_back_19 : decode cX8_back 19 = .ok (.istore_n 1, 1) := by decide +kernel
theorem dX8_back_20 : decode cX8_back 20 = .ok (.iload_n 1, 1) := by decide +kernel
theorem dX8_back_21 : decode cX8_back 21 = .ok (.aload_n 0, 1) := by decide +kernel
theorem dX8_back_22 : decode cX8_back 22 = .ok (.getfield 143, 3) := by decide +kernel
theorem dX8_back_25 : decode cX8_back 25 = .ok (.if_icmp .ge 26, 3) := by decide +kernel
theorem dX8_back_28 : decode cX8_back 28 = .ok (.aload_n 0, 1) := by decide +kernel
theorem dX8_back_29 : decode cX8_back 29 = .ok (.getfield 9, 3) := by decide +kernel
theorem dX8_back_32 : decode cX8_back 32 = .ok (.aload_n 0, 1) := by decide +kernel
theorem dX8_back_33 : decode cX8_back 33 = .ok (.getfield 137, 3) := by decide +kernel
theorem dX8_back_36 : decode cX8_back 36 = .ok (.iload_n 1, 1) := by decide +kernel
theorem dX8_back_37 : decode cX8_back 37 = .ok (.iadd, 1) := by decide +kernel
theorem dX8_back_38 : decode cX8_back 38 = .ok (.aload_n 0, 1) := by decide +kernel
theorem dX8_back_39 : decode cX8_back 39 = .ok (.getfield 13, 3) := by decide +kernel
theorem dX8_back_42 : decode cX8_back 42 = .ok (.iload_n 1, 1) := by decide +kernel
theorem dX8_back_43 : decode cX8_back 43 = .ok (.baload, 1) := by decide +kernel
theorem dX8_back_44 : decode cX8_back 44 = .ok (.bastore, 1) := by decide +kernel
theorem dX8_back_45 : decode cX8_back 45 = .ok (.iinc 1 1, 3) := by decide +kernel
theorem dX8_back_48 : decode cX8_back 48 = .ok (.goto (-28), 3) := by decide +kernel
theorem dX8_back_51 : decode cX8_back 51 = .ok (.aload_n 0, 1) := by decide +kernel
theorem dX8_back_52 : decode cX8_back 52 = .ok (.dup, 1) := by decide +kernel
theorem dX8_back_53 : decode cX8_back 53 = .ok (.getfield 137, 3) := by decide +kernel
theorem dX8_back_56 : decode cX8_back 56 = .ok (.aload_n 0, 1) := by decide +kernel
theorem dX8_back_57 : decode cX8_back 57 = .ok (.getfield 143, 3) := by decide +kernel
theorem dX8_back_60 : decode cX8_back 60 = .ok (.iadd, 1) := by decide +kernel
theorem dX8_back_61 : decode cX8_back 61 = .ok (.putfield 137, 3) := by decide +kernel
theorem dX8_back_64 : decode cX8_back 64 = .ok (.aload_n 0, 1) := by decide +kernel
theorem dX8_back_65 : decode cX8_back 65 = .ok (.getfield 137, 3) := by decide +kernel
theorem dX8_back_68 : decode cX8_back 68 = .ok (.ireturn, 1) := by decide +kernel
theorem dX8_told_0 : decode cX8_told 0 = .ok (.aload_n 0, 1) := by decide +kernel
theorem dX8_told_1 : decode cX8_told 1 = .ok (.bipush 32, 2) := by decide +kernel
theorem dX8_told_3 : decode cX8_told 3 = .ok (.putfield 143, 3) := by decide +kernel
theorem dX8_told_6 : decode cX8_told 6 = .ok (.bipush 32, 2) := by decide +kernel
theorem dX8_told_8 : decode cX8_told 8 = .ok (.ireturn, 1) := by decide +kernel
theorem dX8_hash_0 : decode cX8_hash 0 = .ok (.aload_n 0, 1) := by decide +kernel
theorem dX8_hash_1 : decode cX8_hash 1 = .ok (.aload_n 0, 1) := by decide +kernel
theorem dX8_hash_2 : decode cX8_hash 2 = .ok (.getfield 13, 3) := by decide +kernel
theorem dX8_hash_5 : decode cX8_hash 5 = .ok (.iconst 0, 1) := by decide +kernel
theorem dX8_hash_6 : decode cX8_hash 6 = .ok (.invokevirtual 146, 3) := by decide +kernel
theorem dX8_hash_9 : decode cX8_hash 9 = .ok (.aload_n 0, 1) := by decide +kernel
theorem dX8_hash_10 : decode cX8_hash 10 = .ok (.iconst 0, 1) := by decide +kernel
theorem dX8_hash_11 : decode cX8_hash 11 = .ok (.putfield 137, 3) := by decide +kernel
theorem dX8_hash_14 : decode cX8_hash 14 = .ok (.aload_n 0, 1) := by decide +kernel
theorem dX8_hash_15 : decode cX8_hash 15 = .ok (.invokevirtual 149, 3) := by decide +kernel
theorem dX8_hash_18 : decode cX8_hash 18 = .ok (.ireturn, 1) := by decide +kernel
theorem dX8_key_0 : decode cX8_key 0 = .ok (.aload_n 0, 1) := by decide +kernel
theorem dX8_key_1 : decode cX8_key 1 = .ok (.aload_n 0, 1) := by decide +kernel
theorem dX8_key_2 : decode cX8_key 2 = .ok (.getfield 38, 3) := by decide +kernel
theorem dX8_key_5 : decode cX8_key 5 = .ok (.iconst 0, 1) := by decide +kernel
theorem dX8_key_6 : decode cX8_key 6 = .ok (.invokevirtual 146, 3) := by decide +kernel
theorem dX8_key_9 : decode cX8_key 9 = .ok (.aload_n 0, 1) := by decide +kernel
theorem dX8_key_10 : decode cX8_key 10 = .ok (.iconst 0, 1) := by decide +kernel
theorem dX8_key_11 : decode cX8_key 11 = .ok (.putfield 137, 3) := by decide +kernel
theorem dX8_key_14 : decode cX8_key 14 = .ok (.iconst 0, 1) := by decide +kernel
theorem dX8_key_15 : decode cX8_key 15 = .ok (.ireturn, 1) := by decide +kernel
theorem dX8_change_0 : decode cX8_change 0 = .ok (.iconst 0, 1) := by decide +kernel
theorem dX8_change_1 : decode cX8_change 1 = .ok (.istore_n 1, 1) := by decide +kernel
theorem dX8_change_2 : decode cX8_change 2 = .ok (.iload_n 1, 1) := by decide +kernel
theorem dX8_change_3 : decode cX8_change 3 = .ok (.iconst 4, 1) := by decide +kernel
theorem dX8_change_4 : decode cX8_change 4 = .ok (.if_icmp .ge 38, 3) := by decide +kernel
theorem dX8_change_7 : decode cX8_change 7 = .ok (.aload_n 0, 1) := by decide +kernel
theorem dX8_change_8 : decode cX8_change 8 = .ok (.getfield 57, 3) := by decide +kernel
theorem dX8_change_11 : decode cX8_change 11 = .ok (.iload_n 1, 1) := by decide +kernel
theorem dX8_change_12 : decode cX8_change 12 = .ok (.aload_n 0, 1) := by decide +kernel
theorem dX8_change_13 : decode cX8_change 13 = .ok (.getfield 57, 3) := by decide +kernel
theorem dX8_change_16 : decode cX8_change 16 = .ok (.iload_n 1, 1) := by decide +kernel
theorem dX8_change_17 : decode cX8_change 17 = .ok (.baload, 1) := by decide +kernel
theorem dX8_change_18 : decode cX8_change 18 = .ok (.ifCond .ne 12, 3) := by decide +kernel
theorem dX8_change_21 : decode cX8_change 21 = .ok (.aload_n 0, 1) := by decide +kernel
theorem dX8_change_22 : decode cX8_change 22 = .ok (.getfield 54, 3) := by decide +kernel
theorem dX8_change_25 : decode cX8_change 25 = .ok (.iload_n 1, 1) := by decide +kernel
theorem dX8_change_26 : decode cX8_change 26 = .ok (.baload, 1) := by decide +kernel
theorem dX8_change_27 : decode cX8_change 27 = .ok (.ifCond .eq 7, 3) := by decide +kernel
theorem dX8_change_30 : decode cX8_change 30 = .ok (.iconst 1, 1) := by decide +kernel
theorem dX8_change_31 : decode cX8_change 31 = .ok (.goto 4, 3) := by decide +kernel
theorem dX8_change_34 : decode cX8_change 34 = .ok (.iconst 0, 1) := by decide +kernel
theorem dX8_change_35 : decode cX8_change 35 = .ok (.bastore, 1) := by decide +kernel
theorem dX8_change_36 : decode cX8_change 36 = .ok (.iinc 1 1, 3) := by decide +kernel
theorem dX8_change_39 : decode cX8_change 39 = .ok (.goto (-37), 3) := by decide +kernel
theorem dX8_change_42 : decode cX8_change 42 = .ok (.return_, 1) := by decide +kernel
theorem dX8_extend_0 : decode cX8_extend 0 = .ok (.iload_n 1, 1) := by decide +kernel
theorem dX8_extend_1 : decode cX8_extend 1 = .ok (.ifCond .lt 13, 3) := by decide +kernel
theorem dX8_extend_4 : decode cX8_extend 4 = .ok (.iload_n 1, 1) := by decide +kernel
theorem dX8_extend_5 : decode cX8_extend 5 = .ok (.bipush 8, 2) := by decide +kernel
theorem dX8_extend_7 : decode cX8_extend 7 = .ok (.if_icmp .ge 7, 3) := by decide +kernel
theorem dX8_extend_10 : decode cX8_extend 10 = .ok (.iconst 1, 1) := by decide +kernel
theorem dX8_extend_11 : decode cX8_extend 11 = .ok (.goto 4, 3) := by decide +kernel
theorem dX8_extend_14 : decode cX8_extend 14 = .ok (.iconst 0, 1) := by decide +kernel
theorem dX8_extend_15 : decode cX8_extend 15 = .ok (.istore_n 2, 1) := by decide +kernel
theorem dX8_extend_16 : decode cX8_extend 16 = .ok (.iload_n 2, 1) := by decide +kernel
theorem dX8_extend_17 : decode cX8_extend 17 = .ok (.ifCond .eq 58, 3) := by decide +kernel
theorem dX8_extend_20 : decode cX8_extend 20 = .ok (.aload_n 0, 1) := by decide +kernel
theorem dX8_extend_21 : decode cX8_extend 21 = .ok (.aload_n 0, 1) := by decide +kernel
theorem dX8_extend_22 : decode cX8_extend 22 = .ok (.getfield 29, 3) := by decide +kernel
theorem dX8_extend_25 : decode cX8_extend 25 = .ok (.iconst 0, 1) := by decide +kernel
theorem dX8_extend_26 : decode cX8_extend 26 = .ok (.invokevirtual 146, 3) := by decide +kernel
theorem dX8_extend_29 : decode cX8_extend 29 = .ok (.aload_n 0, 1) := by decide +kernel
theorem dX8_extend_30 : decode cX8_extend 30 = .ok (.iconst 0, 1) := by decide +kernel
theorem dX8_extend_31 : decode cX8_extend 31 = .ok (.putfield 100, 3) := by decide +kernel
theorem dX8_extend_34 : decode cX8_extend 34 = .ok (.aload_n 0, 1) := by decide +kernel
theorem dX8_extend_35 : decode cX8_extend 35 = .ok (.aload_n 0, 1) := by decide +kernel
theorem dX8_extend_36 : decode cX8_extend 36 = .ok (.getfield 44, 3) := by decide +kernel
theorem dX8_extend_39 : decode cX8_extend 39 = .ok (.bipush 32, 2) := by decide +kernel
theorem dX8_extend_41 : decode cX8_extend 41 = .ok (.iload_n 1, 1) := by decide +kernel
theorem dX8_extend_42 : decode cX8_extend 42 = .ok (.imul, 1) := by decide +kernel
theorem dX8_extend_43 : decode cX8_extend 43 = .ok (.bipush 32, 2) := by decide +kernel
theorem dX8_extend_45 : decode cX8_extend 45 = .ok (.invokevirtual 134, 3) := by decide +kernel
theorem dX8_extend_48 : decode cX8_extend 48 = .ok (.aload_n 0, 1) := by decide +kernel
theorem dX8_extend_49 : decode cX8_extend 49 = .ok (.aload_n 0, 1) := by decide +kernel
theorem dX8_extend_50 : decode cX8_extend 50 = .ok (.getfield 29, 3) := by decide +kernel
theorem dX8_extend_53 : decode cX8_extend 53 = .ok (.iconst 0, 1) := by decide +kernel
theorem dX8_extend_54 : decode cX8_extend 54 = .ok (.bipush 32, 2) := by decide +kernel
theorem dX8_extend_56 : decode cX8_extend 56 = .ok (.invokevirtual 134, 3) := by decide +kernel
theorem dX8_extend_59 : decode cX8_extend 59 = .ok (.aload_n 0, 1) := by decide +kernel
theorem dX8_extend_60 : decode cX8_extend 60 = .ok (.aload_n 0, 1) := by decide +kernel
theorem dX8_extend_61 : decode cX8_extend 61 = .ok (.getfield 44, 3) := by decide +kernel
theorem dX8_extend_64 : decode cX8_extend 64 = .ok (.bipush 32, 2) := by decide +kernel
theorem dX8_extend_66 : decode cX8_extend 66 = .ok (.iload_n 1, 1) := by decide +kernel
theorem dX8_extend_67 : decode cX8_extend 67 = .ok (.imul, 1) := by decide +kernel
theorem dX8_extend_68 : decode cX8_extend 68 = .ok (.invokevirtual 111, 3) := by decide +kernel
theorem dX8_extend_71 : decode cX8_extend 71 = .ok (.aload_n 0, 1) := by decide +kernel
theorem dX8_extend_72 : decode cX8_extend 72 = .ok (.invokevirtual 153, 3) := by decide +kernel
theorem dX8_extend_75 : decode cX8_extend 75 = .ok (.aload_n 0, 1) := by decide +kernel
theorem dX8_extend_76 : decode cX8_extend 76 = .ok (.iconst 0, 1) := by decide +kernel
theorem dX8_extend_77 : decode cX8_extend 77 = .ok (.putfield 137, 3) := by decide +kernel
theorem dX8_extend_80 : decode cX8_extend 80 = .ok (.iload_n 2, 1) := by decide +kernel
theorem dX8_extend_81 : decode cX8_extend 81 = .ok (.ifCond .eq 7, 3) := by decide +kernel
theorem dX8_extend_84 : decode cX8_extend 84 = .ok (.iconst 0, 1) := by decide +kernel
theorem dX8_extend_85 : decode cX8_extend 85 = .ok (.goto 4, 3) := by decide +kernel
theorem dX8_extend_88 : decode cX8_extend 88 = .ok (.iconst (-1), 1) := by decide +kernel
theorem dX8_extend_89 : decode cX8_extend 89 = .ok (.ireturn, 1) := by decide +kernel
theorem dX8_reset_0 : decode cX8_reset 0 = .ok (.iload_n 1, 1) := by decide +kernel
theorem dX8_reset_1 : decode cX8_reset 1 = .ok (.bipush 6, 2) := by decide +kernel
theorem dX8_reset_3 : decode cX8_reset 3 = .ok (.if_icmp .eq 11, 3) := by decide +kernel
theorem dX8_reset_6 : decode cX8_reset 6 = .ok (.iload_n 1, 1) := by decide +kernel
theorem dX8_reset_7 : decode cX8_reset 7 = .ok (.bipush 7, 2) := by decide +kernel
theorem dX8_reset_9 : decode cX8_reset 9 = .ok (.if_icmp .eq 5, 3) := by decide +kernel
theorem dX8_reset_12 : decode cX8_reset 12 = .ok (.iconst (-1), 1) := by decide +kernel
theorem dX8_reset_13 : decode cX8_reset 13 = .ok (.ireturn, 1) := by decide +kernel
theorem dX8_reset_14 : decode cX8_reset 14 = .ok (.iconst 0, 1) := by decide +kernel
theorem dX8_reset_15 : decode cX8_reset 15 = .ok (.istore_n 2, 1) := by decide +kernel
theorem dX8_reset_16 : decode cX8_reset 16 = .ok (.iload_n 2, 1) := by decide +kernel
theorem dX8_reset_17 : decode cX8_reset 17 = .ok (.bipush 32, 2) := by decide +kernel
theorem dX8_reset_19 : decode cX8_reset 19 = .ok (.if_icmp .ge 21, 3) := by decide +kernel
theorem dX8_reset_22 : decode cX8_reset 22 = .ok (.aload_n 0, 1) := by decide +kernel
theorem dX8_reset_23 : decode cX8_reset 23 = .ok (.getfield 44, 3) := by decide +kernel
theorem dX8_reset_26 : decode cX8_reset 26 = .ok (.bipush 32, 2) := by decide +kernel
theorem dX8_reset_28 : decode cX8_reset 28 = .ok (.iload_n 1, 1) := by decide +kernel
theorem dX8_reset_29 : decode cX8_reset 29 = .ok (.imul, 1) := by decide +kernel
theorem dX8_reset_30 : decode cX8_reset 30 = .ok (.iload_n 2, 1) := by decide +kernel
theorem dX8_reset_31 : decode cX8_reset 31 = .ok (.iadd, 1) := by decide +kernel
theorem dX8_reset_32 : decode cX8_reset 32 = .ok (.iconst 0, 1) := by decide +kernel
theorem dX8_reset_33 : decode cX8_reset 33 = .ok (.bastore, 1) := by decide +kernel
theorem dX8_reset_34 : decode cX8_reset 34 = .ok (.iinc 2 1, 3) := by decide +kernel
theorem dX8_reset_37 : decode cX8_reset 37 = .ok (.goto (-21), 3) := by decide +kernel
theorem dX8_reset_40 : decode cX8_reset 40 = .ok (.aload_n 0, 1) := by decide +kernel
theorem dX8_reset_41 : decode cX8_reset 41 = .ok (.invokevirtual 153, 3) := by decide +kernel
theorem dX8_reset_44 : decode cX8_reset 44 = .ok (.iconst 0, 1) := by decide +kernel
theorem dX8_reset_45 : decode cX8_reset 45 = .ok (.ireturn, 1) := by decide +kernel
theorem dX8_stateTo_0 : decode cX8_stateTo 0 = .ok (.aload_n 0, 1) := by decide +kernel
theorem dX8_stateTo_1 : decode cX8_stateTo 1 = .ok (.iconst 0, 1) := by decide +kernel
theorem dX8_stateTo_2 : decode cX8_stateTo 2 = .ok (.putfield 100, 3) := by decide +kernel
theorem dX8_stateTo_5 : decode cX8_stateTo 5 = .ok (.iconst 0, 1) := by decide +kernel
theorem dX8_stateTo_6 : decode cX8_stateTo 6 = .ok (.istore 4, 2) := by decide +kernel
theorem dX8_stateTo_8 : decode cX8_stateTo 8 = .ok (.iload 4, 2) := by decide +kernel
theorem dX8_stateTo_10 : decode cX8_stateTo 10 = .ok (.bipush 8, 2) := by decide +kernel
theorem dX8_stateTo_12 : decode cX8_stateTo 12 = .ok (.if_icmp .ge 34, 3) := by decide +kernel
theorem dX8_stateTo_15 : decode cX8_stateTo 15 = .ok (.iload_n 1, 1) := by decide +kernel
theorem dX8_stateTo_16 : decode cX8_stateTo 16 = .ok (.iload 4, 2) := by decide +kernel
theorem dX8_stateTo_18 : decode cX8_stateTo 18 = .ok (.ishr, 1) := by decide +kernel
theorem dX8_stateTo_19 : decode cX8_stateTo 19 = .ok (.iconst 1, 1) := by decide +kernel
theorem dX8_stateTo_20 : decode cX8_stateTo 20 = .ok (.iand, 1) := by decide +kernel
theorem dX8_stateTo_21 : decode cX8_stateTo 21 = .ok (.iconst 1, 1) := by decide +kernel
theorem dX8_stateTo_22 : decode cX8_stateTo 22 = .ok (.if_icmp .ne 18, 3) := by decide +kernel
theorem dX8_stateTo_25 : decode cX8_stateTo 25 = .ok (.aload_n 0, 1) := by decide +kernel
theorem dX8_stateTo_26 : decode cX8_stateTo 26 = .ok (.aload_n 0, 1) := by decide +kernel
theorem dX8_stateTo_27 : decode cX8_stateTo 27 = .ok (.getfield 44, 3) := by decide +kernel
theorem dX8_stateTo_30 : decode cX8_stateTo 30 = .ok (.bipush 32, 2) := by decide +kernel
theorem dX8_stateTo_32 : decode cX8_stateTo 32 = .ok (.iload 4, 2) := by decide +kernel
theorem dX8_stateTo_34 : decode cX8_stateTo 34 = .ok (.imul, 1) := by decide +kernel
theorem dX8_stateTo_35 : decode cX8_stateTo 35 = .ok (.bipush 32, 2) := by decide +kernel
theorem dX8_stateTo_37 : decode cX8_stateTo 37 = .ok (.invokevirtual 134, 3) := by decide +kernel
theorem dX8_stateTo_40 : decode cX8_stateTo 40 = .ok (.iinc 4 1, 3) := by decide +kernel
theorem dX8_stateTo_43 : decode cX8_stateTo 43 = .ok (.goto (-35), 3) := by decide +kernel
theorem dX8_stateTo_46 : decode cX8_stateTo 46 = .ok (.aload_n 0, 1) := by decide +kernel
theorem dX8_stateTo_47 : decode cX8_stateTo 47 = .ok (.aload_n 2, 1) := by decide +kernel
theorem dX8_stateTo_48 : decode cX8_stateTo 48 = .ok (.iload_n 3, 1) := by decide +kernel
theorem dX8_stateTo_49 : decode cX8_stateTo 49 = .ok (.invokevirtual 111, 3) := by decide +kernel
theorem dX8_stateTo_52 : decode cX8_stateTo 52 = .ok (.return_, 1) := by decide +kernel
theorem dX8_state_0 : decode cX8_state 0 = .ok (.aload_n 0, 1) := by decide +kernel
theorem dX8_state_1 : decode cX8_state 1 = .ok (.iload_n 1, 1) := by decide +kernel
theorem dX8_state_2 : decode cX8_state 2 = .ok (.aload_n 0, 1) := by decide +kernel
theorem dX8_state_3 : decode cX8_state 3 = .ok (.getfield 13, 3) := by decide +kernel
theorem dX8_state_6 : decode cX8_state 6 = .ok (.iconst 0, 1) := by decide +kernel
theorem dX8_state_7 : decode cX8_state 7 = .ok (.invokevirtual 156, 3) := by decide +kernel
theorem dX8_state_10 : decode cX8_state 10 = .ok (.aload_n 0, 1) := by decide +kernel
theorem dX8_state_11 : decode cX8_state 11 = .ok (.invokevirtual 149, 3) := by decide +kernel
theorem dX8_state_14 : decode cX8_state 14 = .ok (.ireturn, 1) := by decide +kernel
theorem dX8_tell_0 : decode cX8_tell 0 = .ok (.aload_n 0, 1) := by decide +kernel
theorem dX8_tell_1 : decode cX8_tell 1 = .ok (.getfield 13, 3) := by decide +kernel
theorem dX8_tell_4 : decode cX8_tell 4 = .ok (.aload_n 0, 1) := by decide +kernel
theorem dX8_tell_5 : decode cX8_tell 5 = .ok (.getfield 143, 3) := by decide +kernel
theorem dX8_tell_8 : decode cX8_tell 8 = .ok (.iload_n 1, 1) := by decide +kernel
theorem dX8_tell_9 : decode cX8_tell 9 = .ok (.i2b, 1) := by decide +kernel
theorem dX8_tell_10 : decode cX8_tell 10 = .ok (.bastore, 1) := by decide +kernel
theorem dX8_tell_11 : decode cX8_tell 11 = .ok (.aload_n 0, 1) := by decide +kernel
theorem dX8_tell_12 : decode cX8_tell 12 = .ok (.dup, 1) := by decide +kernel
theorem dX8_tell_13 : decode cX8_tell 13 = .ok (.getfield 143, 3) := by decide +kernel
theorem dX8_tell_16 : decode cX8_tell 16 = .ok (.iconst 1, 1) := by decide +kernel
theorem dX8_tell_17 : decode cX8_tell 17 = .ok (.iadd, 1) := by decide +kernel
theorem dX8_tell_18 : decode cX8_tell 18 = .ok (.putfield 143, 3) := by decide +kernel
theorem dX8_tell_21 : decode cX8_tell 21 = .ok (.return_, 1) := by decide +kernel
theorem dX8_tellWord_0 : decode cX8_tellWord 0 = .ok (.bipush 24, 2) := by decide +kernel
theorem dX8_tellWord_2 : decode cX8_tellWord 2 = .ok (.istore_n 2, 1) := by decide +kernel
theorem dX8_tellWord_3 : decode cX8_tellWord 3 = .ok (.iload_n 2, 1) := by decide +kernel
theorem dX8_tellWord_4 : decode cX8_tellWord 4 = .ok (.ifCond .lt 16, 3) := by decide +kernel
theorem dX8_tellWord_7 : decode cX8_tellWord 7 = .ok (.aload_n 0, 1) := by decide +kernel
theorem dX8_tellWord_8 : decode cX8_tellWord 8 = .ok (.iload_n 1, 1) := by decide +kernel
theorem dX8_tellWord_9 : decode cX8_tellWord 9 = .ok (.iload_n 2, 1) := by decide +kernel
theorem dX8_tellWord_10 : decode cX8_tellWord 10 = .ok (.ishr, 1) := by decide +kernel
theorem dX8_tellWord_11 : decode cX8_tellWord 11 = .ok (.invokevirtual 160, 3) := by decide +kernel
theorem dX8_tellWord_14 : decode cX8_tellWord 14 = .ok (.iinc 2 (-8), 3) := by decide +kernel
theorem dX8_tellWord_17 : decode cX8_tellWord 17 = .ok (.goto (-14), 3) := by decide +kernel
theorem dX8_tellWord_20 : decode cX8_tellWord 20 = .ok (.return_, 1) := by decide +kernel
theorem dX8_quote_0 : decode cX8_quote 0 = .ok (.aload_n 0, 1) := by decide +kernel
theorem dX8_quote_1 : decode cX8_quote 1 = .ok (.getfield 137, 3) := by decide +kernel
theorem dX8_quote_4 : decode cX8_quote 4 = .ok (.istore_n 2, 1) := by decide +kernel
theorem dX8_quote_5 : decode cX8_quote 5 = .ok (.aload_n 0, 1) := by decide +kernel
theorem dX8_quote_6 : decode cX8_quote 6 = .ok (.iconst 0, 1) := by decide +kernel
theorem dX8_quote_7 : decode cX8_quote 7 = .ok (.putfield 137, 3) := by decide +kernel
theorem dX8_quote_10 : decode cX8_quote 10 = .ok (.iload_n 2, 1) := by decide +kernel
theorem dX8_quote_11 : decode cX8_quote 11 = .ok (.bipush 32, 2) := by decide +kernel
theorem dX8_quote_13 : decode cX8_quote 13 = .ok (.if_icmp .le 5, 3) := by decide +kernel
theorem dX8_quote_16 : decode cX8_quote 16 = .ok (.iconst (-1), 1) := by decide +kernel
theorem dX8_quote_17 : decode cX8_quote 17 = .ok (.ireturn, 1) := by decide +kernel
theorem dX8_quote_18 : decode cX8_quote 18 = .ok (.aload_n 0, 1) := by decide +kernel
theorem dX8_quote_19 : decode cX8_quote 19 = .ok (.iconst 0, 1) := by decide +kernel
theorem dX8_quote_20 : decode cX8_quote 20 = .ok (.putfield 143, 3) := by decide +kernel
theorem dX8_quote_23 : decode cX8_quote 23 = .ok (.aload_n 0, 1) := by decide +kernel
theorem dX8_quote_24 : decode cX8_quote 24 = .ok (.bipush 81, 2) := by decide +kernel
theorem dX8_quote_26 : decode cX8_quote 26 = .ok (.invokevirtual 160, 3) := by decide +kernel
theorem dX8_quote_29 : decode cX8_quote 29 = .ok (.aload_n 0, 1) := by decide +kernel
theorem dX8_quote_30 : decode cX8_quote 30 = .ok (.iload_n 1, 1) := by decide +kernel
theorem dX8_quote_31 : decode cX8_quote 31 = .ok (.invokevirtual 160, 3) := by decide +kernel
theorem dX8_quote_34 : decode cX8_quote 34 = .ok (.aload_n 0, 1) := by decide +kernel
theorem dX8_quote_35 : decode cX8_quote 35 = .ok (.iload_n 1, 1) := by decide +kernel
theorem dX8_quote_36 : decode cX8_quote 36 = .ok (.aload_n 0, 1) := by decide +kernel
theorem dX8_quote_37 : decode cX8_quote 37 = .ok (.getfield 13, 3) := by decide +kernel
theorem dX8_quote_40 : decode cX8_quote 40 = .ok (.iconst 2, 1) := by decide +kernel
theorem dX8_quote_41 : decode cX8_quote 41 = .ok (.invokevirtual 156, 3) := by decide +kernel
theorem dX8_quote_44 : decode cX8_quote 44 = .ok (.aload_n 0, 1) := by decide +kernel
theorem dX8_quote_45 : decode cX8_quote 45 = .ok (.dup, 1) := by decide +kernel
theorem dX8_quote_46 : decode cX8_quote 46 = .ok (.getfield 143, 3) := by decide +kernel
theorem dX8_quote_49 : decode cX8_quote 49 = .ok (.bipush 32, 2) := by decide +kernel
theorem dX8_quote_51 : decode cX8_quote 51 = .ok (.iadd, 1) := by decide +kernel
theorem dX8_quote_52 : decode cX8_quote 52 = .ok (.putfield 143, 3) := by decide +kernel
theorem dX8_quote_55 : decode cX8_quote 55 = .ok (.aload_n 0, 1) := by decide +kernel
theorem dX8_quote_56 : decode cX8_quote 56 = .ok (.aload_n 0, 1) := by decide +kernel
theorem dX8_quote_57 : decode cX8_quote 57 = .ok (.getfield 163, 3) := by decide +kernel
theorem dX8_quote_60 : decode cX8_quote 60 = .ok (.invokevirtual 166, 3) := by decide +kernel
theorem dX8_quote_63 : decode cX8_quote 63 = .ok (.aload_n 0, 1) := by decide +kernel
theorem dX8_quote_64 : decode cX8_quote 64 = .ok (.aload_n 0, 1) := by decide +kernel
theorem dX8_quote_65 : decode cX8_quote 65 = .ok (.getfield 169, 3) := by decide +kernel
theorem dX8_quote_68 : decode cX8_quote 68 = .ok (.invokevirtual 166, 3) := by decide +kernel
theorem dX8_quote_71 : decode cX8_quote 71 = .ok (.iconst 0, 1) := by decide +kernel
theorem dX8_quote_72 : decode cX8_quote 72 = .ok (.istore_n 3, 1) := by decide +kernel
theorem dX8_quote_73 : decode cX8_quote 73 = .ok (.iload_n 3, 1) := by decide +kernel
theorem dX8_quote_74 : decode cX8_quote 74 = .ok (.iload_n 2, 1) := by decide +kernel
theorem dX8_quote_75 : decode cX8_quote 75 = .ok (.if_icmp .ge 19, 3) := by decide +kernel
theorem dX8_quote_78 : decode cX8_quote 78 = .ok (.aload_n 0, 1) := by decide +kernel
theorem dX8_quote_79 : decode cX8_quote 79 = .ok (.aload_n 0, 1) := by decide +kernel
theorem dX8_quote_80 : decode cX8_quote 80 = .ok (.getfield 9, 3) := by decide +kernel
theorem dX8_quote_83 : decode cX8_quote 83 = .ok (.iload_n 3, 1) := by decide +kernel
theorem dX8_quote_84 : decode cX8_quote 84 = .ok (.baload, 1) := by decide +kernel
theorem dX8_quote_85 : decode cX8_quote 85 = .ok (.invokevirtual 160, 3) := by decide +kernel
theorem dX8_quote_88 : decode cX8_quote 88 = .ok (.iinc 3 1, 3) := by decide +kernel
theorem dX8_quote_91 : decode cX8_quote 91 = .ok (.goto (-18), 3) := by decide +kernel
theorem dX8_quote_94 : decode cX8_quote 94 = .ok (.aload_n 0, 1) := by decide +kernel
theorem dX8_quote_95 : decode cX8_quote 95 = .ok (.bipush 81, 2) := by decide +kernel
theorem dX8_quote_97 : decode cX8_quote 97 = .ok (.invokevirtual 172, 3) := by decide +kernel
theorem dX8_quote_100 : decode cX8_quote 100 = .ok (.aload_n 0, 1) := by decide +kernel
theorem dX8_quote_101 : decode cX8_quote 101 = .ok (.aload_n 0, 1) := by decide +kernel
theorem dX8_quote_102 : decode cX8_quote 102 = .ok (.getfield 29, 3) := by decide +kernel
theorem dX8_quote_105 : decode cX8_quote 105 = .ok (.iconst 0, 1) := by decide +kernel
theorem dX8_quote_106 : decode cX8_quote 106 = .ok (.invokevirtual 175, 3) := by decide +kernel
theorem dX8_quote_109 : decode cX8_quote 109 = .ok (.aload_n 0, 1) := by decide +kernel
theorem dX8_quote_110 : decode cX8_quote 110 = .ok (.aload_n 0, 1) := by decide +kernel
theorem dX8_quote_111 : decode cX8_quote 111 = .ok (.getfield 143, 3) := by decide +kernel
theorem dX8_quote_114 : decode cX8_quote 114 = .ok (.putfield 131, 3) := by decide +kernel
theorem dX8_quote_117 : decode cX8_quote 117 = .ok (.iconst 0, 1) := by decide +kernel
theorem dX8_quote_118 : decode cX8_quote 118 = .ok (.istore_n 3, 1) := by decide +kernel
theorem dX8_quote_119 : decode cX8_quote 119 = .ok (.iload_n 3, 1) := by decide +kernel
theorem dX8_quote_120 : decode cX8_quote 120 = .ok (.aload_n 0, 1) := by decide +kernel
theorem dX8_quote_121 : decode cX8_quote 121 = .ok (.getfield 143, 3) := by decide +kernel
theorem dX8_quote_124 : decode cX8_quote 124 = .ok (.if_icmp .ge 21, 3) := by decide +kernel
theorem dX8_quote_127 : decode cX8_quote 127 = .ok (.aload_n 0, 1) := by decide +kernel
theorem dX8_quote_128 : decode cX8_quote 128 = .ok (.getfield 32, 3) := by decide +kernel
theorem dX8_quote_131 : decode cX8_quote 131 = .ok (.iload_n 3, 1) := by decide +kernel
theorem dX8_quote_132 : decode cX8_quote 132 = .ok (.aload_n 0, 1) := by decide +kernel
theorem dX8_quote_133 : decode cX8_quote 133 = .ok (.getfield 13, 3) := by decide +kernel
theorem dX8_quote_136 : decode cX8_quote 136 = .ok (.iload_n 3, 1) := by decide +kernel
theorem dX8_quote_137 : decode cX8_quote 137 = .ok (.baload, 1) := by decide +kernel
theorem dX8_quote_138 : decode cX8_quote 138 = .ok (.bastore, 1) := by decide +kernel
theorem dX8_quote_139 : decode cX8_quote 139 = .ok (.iinc 3 1, 3) := by decide +kernel
theorem dX8_quote_142 : decode cX8_quote 142 = .ok (.goto (-23), 3) := by decide +kernel
theorem dX8_quote_145 : decode cX8_quote 145 = .ok (.aload_n 0, 1) := by decide +kernel
theorem dX8_quote_146 : decode cX8_quote 146 = .ok (.aload_n 0, 1) := by decide +kernel
theorem dX8_quote_147 : decode cX8_quote 147 = .ok (.getfield 13, 3) := by decide +kernel
theorem dX8_quote_150 : decode cX8_quote 150 = .ok (.aload_n 0, 1) := by decide +kernel
theorem dX8_quote_151 : decode cX8_quote 151 = .ok (.getfield 143, 3) := by decide +kernel
theorem dX8_quote_154 : decode cX8_quote 154 = .ok (.invokevirtual 175, 3) := by decide +kernel
theorem dX8_quote_157 : decode cX8_quote 157 = .ok (.aload_n 0, 1) := by decide +kernel
theorem dX8_quote_158 : decode cX8_quote 158 = .ok (.dup, 1) := by decide +kernel
theorem dX8_quote_159 : decode cX8_quote 159 = .ok (.getfield 143, 3) := by decide +kernel
theorem dX8_quote_162 : decode cX8_quote 162 = .ok (.bipush 32, 2) := by decide +kernel
theorem dX8_quote_164 : decode cX8_quote 164 = .ok (.iadd, 1) := by decide +kernel
theorem dX8_quote_165 : decode cX8_quote 165 = .ok (.putfield 143, 3) := by decide +kernel
theorem dX8_quote_168 : decode cX8_quote 168 = .ok (.aload_n 0, 1) := by decide +kernel
theorem dX8_quote_169 : decode cX8_quote 169 = .ok (.getfield 143, 3) := by decide +kernel
theorem dX8_quote_172 : decode cX8_quote 172 = .ok (.ireturn, 1) := by decide +kernel
theorem dX8_isSession_0 : decode cX8_isSession 0 = .ok (.iload_n 0, 1) := by decide +kernel
theorem dX8_isSession_1 : decode cX8_isSession 1 = .ok (.ifCond .lt 12, 3) := by decide +kernel
theorem dX8_isSession_4 : decode cX8_isSession 4 = .ok (.iload_n 0, 1) := by decide +kernel
theorem dX8_isSession_5 : decode cX8_isSession 5 = .ok (.iconst 4, 1) := by decide +kernel
theorem dX8_isSession_6 : decode cX8_isSession 6 = .ok (.if_icmp .ge 7, 3) := by decide +kernel
theorem dX8_isSession_9 : decode cX8_isSession 9 = .ok (.iconst 1, 1) := by decide +kernel
theorem dX8_isSession_10 : decode cX8_isSession 10 = .ok (.goto 4, 3) := by decide +kernel
theorem dX8_isSession_13 : decode cX8_isSession 13 = .ok (.iconst 0, 1) := by decide +kernel
theorem dX8_isSession_14 : decode cX8_isSession 14 = .ok (.ireturn, 1) := by decide +kernel
theorem dX8_opened_0 : decode cX8_opened 0 = .ok (.iload_n 1, 1) := by decide +kernel
theorem dX8_opened_1 : decode cX8_opened 1 = .ok (.invokestatic 178, 3) := by decide +kernel
theorem dX8_opened_4 : decode cX8_opened 4 = .ok (.ifCond .eq 16, 3) := by decide +kernel
theorem dX8_opened_7 : decode cX8_opened 7 = .ok (.aload_n 0, 1) := by decide +kernel
theorem dX8_opened_8 : decode cX8_opened 8 = .ok (.getfield 47, 3) := by decide +kernel
theorem dX8_opened_11 : decode cX8_opened 11 = .ok (.iload_n 1, 1) := by decide +kernel
theorem dX8_opened_12 : decode cX8_opened 12 = .ok (.baload, 1) := by decide +kernel
theorem dX8_opened_13 : decode cX8_opened 13 = .ok (.ifCond .eq 7, 3) := by decide +kernel
theorem dX8_opened_16 : decode cX8_opened 16 = .ok (.iconst 1, 1) := by decide +kernel
theorem dX8_opened_17 : decode cX8_opened 17 = .ok (.goto 4, 3) := by decide +kernel
theorem dX8_opened_20 : decode cX8_opened 20 = .ok (.iconst 0, 1) := by decide +kernel
theorem dX8_opened_21 : decode cX8_opened 21 = .ok (.ireturn, 1) := by decide +kernel
theorem dX8_open_0 : decode cX8_open 0 = .ok (.iload_n 1, 1) := by decide +kernel
theorem dX8_open_1 : decode cX8_open 1 = .ok (.invokestatic 178, 3) := by decide +kernel
theorem dX8_open_4 : decode cX8_open 4 = .ok (.ifCond .ne 5, 3) := by decide +kernel
theorem dX8_open_7 : decode cX8_open 7 = .ok (.iconst (-1), 1) := by decide +kernel
theorem dX8_open_8 : decode cX8_open 8 = .ok (.ireturn, 1) := by decide +kernel
theorem dX8_open_9 : decode cX8_open 9 = .ok (.aload_n 0, 1) := by decide +kernel
theorem dX8_open_10 : decode cX8_open 10 = .ok (.getfield 47, 3) := by decide +kernel
theorem dX8_open_13 : decode cX8_open 13 = .ok (.iload_n 1, 1) := by decide +kernel
theorem dX8_open_14 : decode cX8_open 14 = .ok (.iconst 1, 1) := by decide +kernel
theorem dX8_open_15 : decode cX8_open 15 = .ok (.bastore, 1) := by decide +kernel
theorem dX8_open_16 : decode cX8_open 16 = .ok (.iconst 0, 1) := by decide +kernel
theorem dX8_open_17 : decode cX8_open 17 = .ok (.istore_n 2, 1) := by decide +kernel
theorem dX8_open_18 : decode cX8_open 18 = .ok (.iload_n 2, 1) := by decide +kernel
theorem dX8_open_19 : decode cX8_open 19 = .ok (.bipush 32, 2) := by decide +kernel
theorem dX8_open_21 : decode cX8_open 21 = .ok (.if_icmp .ge 21, 3) := by decide +kernel
theorem dX8_open_24 : decode cX8_open 24 = .ok (.aload_n 0, 1) := by decide +kernel
theorem dX8_open_25 : decode cX8_open 25 = .ok (.getfield 51, 3) := by decide +kernel
theorem dX8_open_28 : decode cX8_open 28 = .ok (.bipush 32, 2) := by decide +kernel
theorem dX8_open_30 : decode cX8_open 30 = .ok (.iload_n 1, 1) := by decide +kernel
theorem dX8_open_31 : decode cX8_open 31 = .ok (.imul, 1) := by decide +kernel
theorem dX8_open_32 : decode cX8_open 32 = .ok (.iload_n 2, 1) := by decide +kernel
theorem dX8_open_33 : decode cX8_open 33 = .ok (.iadd, 1) := by decide +kernel
theorem dX8_open_34 : decode cX8_open 34 = .ok (.iconst 0, 1) := by decide +kernel
theorem dX8_open_35 : decode cX8_open 35 = .ok (.bastore, 1) := by decide +kernel
theorem dX8_open_36 : decode cX8_open 36 = .ok (.iinc 2 1, 3) := by decide +kernel
theorem dX8_open_39 : decode cX8_open 39 = .ok (.goto (-21), 3) := by decide +kernel
theorem dX8_open_42 : decode cX8_open 42 = .ok (.aload_n 0, 1) := by decide +kernel
theorem dX8_open_43 : decode cX8_open 43 = .ok (.getfield 54, 3) := by decide +kernel
theorem dX8_open_46 : decode cX8_open 46 = .ok (.iload_n 1, 1) := by decide +kernel
theorem dX8_open_47 : decode cX8_open 47 = .ok (.iconst 0, 1) := by decide +kernel
theorem dX8_open_48 : decode cX8_open 48 = .ok (.bastore, 1) := by decide +kernel
theorem dX8_open_49 : decode cX8_open 49 = .ok (.aload_n 0, 1) := by decide +kernel
theorem dX8_open_50 : decode cX8_open 50 = .ok (.getfield 57, 3) := by decide +kernel
theorem dX8_open_53 : decode cX8_open 53 = .ok (.iload_n 1, 1) := by decide +kernel
theorem dX8_open_54 : decode cX8_open 54 = .ok (.iconst 0, 1) := by decide +kernel
theorem dX8_open_55 : decode cX8_open 55 = .ok (.bastore, 1) := by decide +kernel
theorem dX8_open_56 : decode cX8_open 56 = .ok (.aload_n 0, 1) := by decide +kernel
theorem dX8_open_57 : decode cX8_open 57 = .ok (.getfield 60, 3) := by decide +kernel
theorem dX8_open_60 : decode cX8_open 60 = .ok (.iload_n 1, 1) := by decide +kernel
theorem dX8_open_61 : decode cX8_open 61 = .ok (.iconst 0, 1) := by decide +kernel
theorem dX8_open_62 : decode cX8_open 62 = .ok (.bastore, 1) := by decide +kernel
theorem dX8_open_63 : decode cX8_open 63 = .ok (.aload_n 0, 1) := by decide +kernel
theorem dX8_open_64 : decode cX8_open 64 = .ok (.getfield 63, 3) := by decide +kernel
theorem dX8_open_67 : decode cX8_open 67 = .ok (.iload_n 1, 1) := by decide +kernel
theorem dX8_open_68 : decode cX8_open 68 = .ok (.iconst 0, 1) := by decide +kernel
theorem dX8_open_69 : decode cX8_open 69 = .ok (.bastore, 1) := by decide +kernel
theorem dX8_open_70 : decode cX8_open 70 = .ok (.aload_n 0, 1) := by decide +kernel
theorem dX8_open_71 : decode cX8_open 71 = .ok (.getfield 66, 3) := by decide +kernel
theorem dX8_open_74 : decode cX8_open 74 = .ok (.iload_n 1, 1) := by decide +kernel
theorem dX8_open_75 : decode cX8_open 75 = .ok (.iconst 0, 1) := by decide +kernel
theorem dX8_open_76 : decode cX8_open 76 = .ok (.iastore, 1) := by decide +kernel
theorem dX8_open_77 : decode cX8_open 77 = .ok (.iconst 0, 1) := by decide +kernel
theorem dX8_open_78 : decode cX8_open 78 = .ok (.ireturn, 1) := by decide +kernel
theorem dX8_begin_0 : decode cX8_begin 0 = .ok (.aload_n 0, 1) := by decide +kernel
theorem dX8_begin_1 : decode cX8_begin 1 = .ok (.iconst 0, 1) := by decide +kernel
theorem dX8_begin_2 : decode cX8_begin 2 = .ok (.putfield 100, 3) := by decide +kernel
theorem dX8_begin_5 : decode cX8_begin 5 = .ok (.aload_n 0, 1) := by decide +kernel
theorem dX8_begin_6 : decode cX8_begin 6 = .ok (.aload_n 0, 1) := by decide +kernel
theorem dX8_begin_7 : decode cX8_begin 7 = .ok (.getfield 51, 3) := by decide +kernel
theorem dX8_begin_10 : decode cX8_begin 10 = .ok (.bipush 32, 2) := by decide +kernel
theorem dX8_begin_12 : decode cX8_begin 12 = .ok (.iload_n 1, 1) := by decide +kernel
theorem dX8_begin_13 : decode cX8_begin 13 = .ok (.imul, 1) := by decide +kernel
theorem dX8_begin_14 : decode cX8_begin 14 = .ok (.bipush 32, 2) := by decide +kernel
theorem dX8_begin_16 : decode cX8_begin 16 = .ok (.invokevirtual 134, 3) := by decide +kernel
theorem dX8_begin_19 : decode cX8_begin 19 = .ok (.aload_n 0, 1) := by decide +kernel
theorem dX8_begin_20 : decode cX8_begin 20 = .ok (.iload_n 2, 1) := by decide +kernel
theorem dX8_begin_21 : decode cX8_begin 21 = .ok (.invokevirtual 104, 3) := by decide +kernel
theorem dX8_begin_24 : decode cX8_begin 24 = .ok (.return_, 1) := by decide +kernel
end
section
theorem dX8_policyState_0 : decode cX8_policyState 0 = .ok (.aload_n 0, 1) := by decide +kernel
theorem dX8_policyState_1 : decode cX8_policyState 1 = .ok (.iload_n 1, 1) := by decide +kernel
theorem dX8_policyState_2 : decode cX8_policyState 2 = .ok (.invokevirtual 182, 3) := by decide +kernel
theorem dX8_policyState_5 : decode cX8_policyState 5 = .ok (.ifCond .ne 5, 3) := by decide +kernel
theorem dX8_policyState_8 : decode cX8_policyState 8 = .ok (.iconst (-1), 1) := by decide +kernel
theorem dX8_policyState_9 : decode cX8_policyState 9 = .ok (.ireturn, 1) := by decide +kernel
theorem dX8_policyState_10 : decode cX8_policyState 10 = .ok (.aload_n 0, 1) := by decide +kernel
theorem dX8_policyState_11 : decode cX8_policyState 11 = .ok (.iload_n 2, 1) := by decide +kernel
theorem dX8_policyState_12 : decode cX8_policyState 12 = .ok (.aload_n 0, 1) := by decide +kernel
theorem dX8_policyState_13 : decode cX8_policyState 13 = .ok (.getfield 29, 3) := by decide +kernel
theorem dX8_policyState_16 : decode cX8_policyState 16 = .ok (.iconst 0, 1) := by decide +kernel
theorem dX8_policyState_17 : decode cX8_policyState 17 = .ok (.invokevirtual 156, 3) := by decide +kernel
theorem dX8_policyState_20 : decode cX8_policyState 20 = .ok (.aload_n 0, 1) := by decide +kernel
theorem dX8_policyState_21 : decode cX8_policyState 21 = .ok (.iload_n 1, 1) := by decide +kernel
theorem dX8_policyState_22 : decode cX8_policyState 22 = .ok (.iconst 1, 1) := by decide +kernel
theorem dX8_policyState_23 : decode cX8_policyState 23 = .ok (.invokevirtual 185, 3) := by decide +kernel
theorem dX8_policyState_26 : decode cX8_policyState 26 = .ok (.aload_n 0, 1) := by decide +kernel
theorem dX8_policyState_27 : decode cX8_policyState 27 = .ok (.iload_n 2, 1) := by decide +kernel
theorem dX8_policyState_28 : decode cX8_policyState 28 = .ok (.invokevirtual 104, 3) := by decide +kernel
theorem dX8_policyState_31 : decode cX8_policyState 31 = .ok (.aload_n 0, 1) := by decide +kernel
theorem dX8_policyState_32 : decode cX8_policyState 32 = .ok (.aload_n 0, 1) := by decide +kernel
theorem dX8_policyState_33 : decode cX8_policyState 33 = .ok (.getfield 29, 3) := by decide +kernel
theorem dX8_policyState_36 : decode cX8_policyState 36 = .ok (.iconst 0, 1) := by decide +kernel
theorem dX8_policyState_37 : decode cX8_policyState 37 = .ok (.bipush 32, 2) := by decide +kernel
theorem dX8_policyState_39 : decode cX8_policyState 39 = .ok (.invokevirtual 134, 3) := by decide +kernel
theorem dX8_policyState_42 : decode cX8_policyState 42 = .ok (.aload_n 0, 1) := by decide +kernel
theorem dX8_policyState_43 : decode cX8_policyState 43 = .ok (.aload_n 0, 1) := by decide +kernel
theorem dX8_policyState_44 : decode cX8_policyState 44 = .ok (.getfield 51, 3) := by decide +kernel
theorem dX8_policyState_47 : decode cX8_policyState 47 = .ok (.bipush 32, 2) := by decide +kernel
theorem dX8_policyState_49 : decode cX8_policyState 49 = .ok (.iload_n 1, 1) := by decide +kernel
theorem dX8_policyState_50 : decode cX8_policyState 50 = .ok (.imul, 1) := by decide +kernel
theorem dX8_policyState_51 : decode cX8_policyState 51 = .ok (.invokevirtual 111, 3) := by decide +kernel
theorem dX8_policyState_54 : decode cX8_policyState 54 = .ok (.aload_n 0, 1) := by decide +kernel
theorem dX8_policyState_55 : decode cX8_policyState 55 = .ok (.getfield 54, 3) := by decide +kernel
theorem dX8_policyState_58 : decode cX8_policyState 58 = .ok (.iload_n 1, 1) := by decide +kernel
theorem dX8_policyState_59 : decode cX8_policyState 59 = .ok (.iconst 1, 1) := by decide +kernel
theorem dX8_policyState_60 : decode cX8_policyState 60 = .ok (.bastore, 1) := by decide +kernel
theorem dX8_policyState_61 : decode cX8_policyState 61 = .ok (.iconst 0, 1) := by decide +kernel
theorem dX8_policyState_62 : decode cX8_policyState 62 = .ok (.ireturn, 1) := by decide +kernel
theorem dX8_policyAuth_0 : decode cX8_policyAuth 0 = .ok (.aload_n 0, 1) := by decide +kernel
theorem dX8_policyAuth_1 : decode cX8_policyAuth 1 = .ok (.iload_n 1, 1) := by decide +kernel
theorem dX8_policyAuth_2 : decode cX8_policyAuth 2 = .ok (.invokevirtual 182, 3) := by decide +kernel
theorem dX8_policyAuth_5 : decode cX8_policyAuth 5 = .ok (.ifCond .ne 5, 3) := by decide +kernel
theorem dX8_policyAuth_8 : decode cX8_policyAuth 8 = .ok (.iconst (-1), 1) := by decide +kernel
theorem dX8_policyAuth_9 : decode cX8_policyAuth 9 = .ok (.ireturn, 1) := by decide +kernel
theorem dX8_policyAuth_10 : decode cX8_policyAuth 10 = .ok (.aload_n 0, 1) := by decide +kernel
theorem dX8_policyAuth_11 : decode cX8_policyAuth 11 = .ok (.iload_n 1, 1) := by decide +kernel
theorem dX8_policyAuth_12 : decode cX8_policyAuth 12 = .ok (.iconst 2, 1) := by decide +kernel
theorem dX8_policyAuth_13 : decode cX8_policyAuth 13 = .ok (.invokevirtual 185, 3) := by decide +kernel
theorem dX8_policyAuth_16 : decode cX8_policyAuth 16 = .ok (.aload_n 0, 1) := by decide +kernel
theorem dX8_policyAuth_17 : decode cX8_policyAuth 17 = .ok (.aload_n 0, 1) := by decide +kernel
theorem dX8_policyAuth_18 : decode cX8_policyAuth 18 = .ok (.getfield 51, 3) := by decide +kernel
theorem dX8_policyAuth_21 : decode cX8_policyAuth 21 = .ok (.bipush 32, 2) := by decide +kernel
theorem dX8_policyAuth_23 : decode cX8_policyAuth 23 = .ok (.iload_n 1, 1) := by decide +kernel
theorem dX8_policyAuth_24 : decode cX8_policyAuth 24 = .ok (.imul, 1) := by decide +kernel
theorem dX8_policyAuth_25 : decode cX8_policyAuth 25 = .ok (.invokevirtual 111, 3) := by decide +kernel
theorem dX8_policyAuth_28 : decode cX8_policyAuth 28 = .ok (.aload_n 0, 1) := by decide +kernel
theorem dX8_policyAuth_29 : decode cX8_policyAuth 29 = .ok (.getfield 60, 3) := by decide +kernel
theorem dX8_policyAuth_32 : decode cX8_policyAuth 32 = .ok (.iload_n 1, 1) := by decide +kernel
theorem dX8_policyAuth_33 : decode cX8_policyAuth 33 = .ok (.iconst 1, 1) := by decide +kernel
theorem dX8_policyAuth_34 : decode cX8_policyAuth 34 = .ok (.bastore, 1) := by decide +kernel
theorem dX8_policyAuth_35 : decode cX8_policyAuth 35 = .ok (.iconst 0, 1) := by decide +kernel
theorem dX8_policyAuth_36 : decode cX8_policyAuth 36 = .ok (.ireturn, 1) := by decide +kernel
theorem dX8_policyCode_0 : decode cX8_policyCode 0 = .ok (.aload_n 0, 1) := by decide +kernel
theorem dX8_policyCode_1 : decode cX8_policyCode 1 = .ok (.iload_n 1, 1) := by decide +kernel
theorem dX8_policyCode_2 : decode cX8_policyCode 2 = .ok (.invokevirtual 182, 3) := by decide +kernel
theorem dX8_policyCode_5 : decode cX8_policyCode 5 = .ok (.ifCond .eq 23, 3) := by decide +kernel
theorem dX8_policyCode_8 : decode cX8_policyCode 8 = .ok (.iload_n 2, 1) := by decide +kernel
theorem dX8_policyCode_9 : decode cX8_policyCode 9 = .ok (.iconst 1, 1) := by decide +kernel
theorem dX8_policyCode_10 : decode cX8_policyCode 10 = .ok (.if_icmp .lt 18, 3) := by decide +kernel
theorem dX8_policyCode_13 : decode cX8_policyCode 13 = .ok (.iload_n 2, 1) := by decide +kernel
theorem dX8_policyCode_14 : decode cX8_policyCode 14 = .ok (.bipush 6, 2) := by decide +kernel
theorem dX8_policyCode_16 : decode cX8_policyCode 16 = .ok (.if_icmp .gt 12, 3) := by decide +kernel
theorem dX8_policyCode_19 : decode cX8_policyCode 19 = .ok (.aload_n 0, 1) := by decide +kernel
theorem dX8_policyCode_20 : decode cX8_policyCode 20 = .ok (.getfield 66, 3) := by decide +kernel
theorem dX8_policyCode_23 : decode cX8_policyCode 23 = .ok (.iload_n 1, 1) := by decide +kernel
theorem dX8_policyCode_24 : decode cX8_policyCode 24 = .ok (.iaload, 1) := by decide +kernel
theorem dX8_policyCode_25 : decode cX8_policyCode 25 = .ok (.ifCond .eq 5, 3) := by decide +kernel
theorem dX8_policyCode_28 : decode cX8_policyCode 28 = .ok (.iconst (-1), 1) := by decide +kernel
theorem dX8_policyCode_29 : decode cX8_policyCode 29 = .ok (.ireturn, 1) := by decide +kernel
theorem dX8_policyCode_30 : decode cX8_policyCode 30 = .ok (.aload_n 0, 1) := by decide +kernel
theorem dX8_policyCode_31 : decode cX8_policyCode 31 = .ok (.iload_n 1, 1) := by decide +kernel
theorem dX8_policyCode_32 : decode cX8_policyCode 32 = .ok (.iconst 3, 1) := by decide +kernel
theorem dX8_policyCode_33 : decode cX8_policyCode 33 = .ok (.invokevirtual 185, 3) := by decide +kernel
theorem dX8_policyCode_36 : decode cX8_policyCode 36 = .ok (.aload_n 0, 1) := by decide +kernel
theorem dX8_policyCode_37 : decode cX8_policyCode 37 = .ok (.iload_n 2, 1) := by decide +kernel
theorem dX8_policyCode_38 : decode cX8_policyCode 38 = .ok (.invokevirtual 104, 3) := by decide +kernel
theorem dX8_policyCode_41 : decode cX8_policyCode 41 = .ok (.aload_n 0, 1) := by decide +kernel
theorem dX8_policyCode_42 : decode cX8_policyCode 42 = .ok (.aload_n 0, 1) := by decide +kernel
theorem dX8_policyCode_43 : decode cX8_policyCode 43 = .ok (.getfield 51, 3) := by decide +kernel
theorem dX8_policyCode_46 : decode cX8_policyCode 46 = .ok (.bipush 32, 2) := by decide +kernel
theorem dX8_policyCode_48 : decode cX8_policyCode 48 = .ok (.iload_n 1, 1) := by decide +kernel
theorem dX8_policyCode_49 : decode cX8_policyCode 49 = .ok (.imul, 1) := by decide +kernel
theorem dX8_policyCode_50 : decode cX8_policyCode 50 = .ok (.invokevirtual 111, 3) := by decide +kernel
theorem dX8_policyCode_53 : decode cX8_policyCode 53 = .ok (.aload_n 0, 1) := by decide +kernel
theorem dX8_policyCode_54 : decode cX8_policyCode 54 = .ok (.getfield 66, 3) := by decide +kernel
theorem dX8_policyCode_57 : decode cX8_policyCode 57 = .ok (.iload_n 1, 1) := by decide +kernel
theorem dX8_policyCode_58 : decode cX8_policyCode 58 = .ok (.iload_n 2, 1) := by decide +kernel
theorem dX8_policyCode_59 : decode cX8_policyCode 59 = .ok (.iastore, 1) := by decide +kernel
theorem dX8_policyCode_60 : decode cX8_policyCode 60 = .ok (.iconst 0, 1) := by decide +kernel
theorem dX8_policyCode_61 : decode cX8_policyCode 61 = .ok (.ireturn, 1) := by decide +kernel
theorem dX8_policyTime_0 : decode cX8_policyTime 0 = .ok (.aload_n 0, 1) := by decide +kernel
theorem dX8_policyTime_1 : decode cX8_policyTime 1 = .ok (.iload_n 1, 1) := by decide +kernel
theorem dX8_policyTime_2 : decode cX8_policyTime 2 = .ok (.invokevirtual 182, 3) := by decide +kernel
theorem dX8_policyTime_5 : decode cX8_policyTime 5 = .ok (.ifCond .ne 5, 3) := by decide +kernel
theorem dX8_policyTime_8 : decode cX8_policyTime 8 = .ok (.iconst (-1), 1) := by decide +kernel
theorem dX8_policyTime_9 : decode cX8_policyTime 9 = .ok (.ireturn, 1) := by decide +kernel
theorem dX8_policyTime_10 : decode cX8_policyTime 10 = .ok (.aload_n 0, 1) := by decide +kernel
theorem dX8_policyTime_11 : decode cX8_policyTime 11 = .ok (.iload_n 1, 1) := by decide +kernel
theorem dX8_policyTime_12 : decode cX8_policyTime 12 = .ok (.iconst 4, 1) := by decide +kernel
theorem dX8_policyTime_13 : decode cX8_policyTime 13 = .ok (.invokevirtual 185, 3) := by decide +kernel
theorem dX8_policyTime_16 : decode cX8_policyTime 16 = .ok (.aload_n 0, 1) := by decide +kernel
theorem dX8_policyTime_17 : decode cX8_policyTime 17 = .ok (.iload_n 2, 1) := by decide +kernel
theorem dX8_policyTime_18 : decode cX8_policyTime 18 = .ok (.invokevirtual 108, 3) := by decide +kernel
theorem dX8_policyTime_21 : decode cX8_policyTime 21 = .ok (.aload_n 0, 1) := by decide +kernel
theorem dX8_policyTime_22 : decode cX8_policyTime 22 = .ok (.aload_n 0, 1) := by decide +kernel
theorem dX8_policyTime_23 : decode cX8_policyTime 23 = .ok (.getfield 51, 3) := by decide +kernel
theorem dX8_policyTime_26 : decode cX8_policyTime 26 = .ok (.bipush 32, 2) := by decide +kernel
theorem dX8_policyTime_28 : decode cX8_policyTime 28 = .ok (.iload_n 1, 1) := by decide +kernel
theorem dX8_policyTime_29 : decode cX8_policyTime 29 = .ok (.imul, 1) := by decide +kernel
theorem dX8_policyTime_30 : decode cX8_policyTime 30 = .ok (.invokevirtual 111, 3) := by decide +kernel
theorem dX8_policyTime_33 : decode cX8_policyTime 33 = .ok (.aload_n 0, 1) := by decide +kernel
theorem dX8_policyTime_34 : decode cX8_policyTime 34 = .ok (.getfield 63, 3) := by decide +kernel
theorem dX8_policyTime_37 : decode cX8_policyTime 37 = .ok (.iload_n 1, 1) := by decide +kernel
theorem dX8_policyTime_38 : decode cX8_policyTime 38 = .ok (.baload, 1) := by decide +kernel
theorem dX8_policyTime_39 : decode cX8_policyTime 39 = .ok (.ifCond .eq 13, 3) := by decide +kernel
theorem dX8_policyTime_42 : decode cX8_policyTime 42 = .ok (.iload_n 2, 1) := by decide +kernel
theorem dX8_policyTime_43 : decode cX8_policyTime 43 = .ok (.aload_n 0, 1) := by decide +kernel
theorem dX8_policyTime_44 : decode cX8_policyTime 44 = .ok (.getfield 70, 3) := by decide +kernel
theorem dX8_policyTime_47 : decode cX8_policyTime 47 = .ok (.iload_n 1, 1) := by decide +kernel
theorem dX8_policyTime_48 : decode cX8_policyTime 48 = .ok (.iaload, 1) := by decide +kernel
theorem dX8_policyTime_49 : decode cX8_policyTime 49 = .ok (.if_icmp .ge 10, 3) := by decide +kernel
theorem dX8_policyTime_52 : decode cX8_policyTime 52 = .ok (.aload_n 0, 1) := by decide +kernel
theorem dX8_policyTime_53 : decode cX8_policyTime 53 = .ok (.getfield 70, 3) := by decide +kernel
theorem dX8_policyTime_56 : decode cX8_policyTime 56 = .ok (.iload_n 1, 1) := by decide +kernel
theorem dX8_policyTime_57 : decode cX8_policyTime 57 = .ok (.iload_n 2, 1) := by decide +kernel
theorem dX8_policyTime_58 : decode cX8_policyTime 58 = .ok (.iastore, 1) := by decide +kernel
theorem dX8_policyTime_59 : decode cX8_policyTime 59 = .ok (.aload_n 0, 1) := by decide +kernel
theorem dX8_policyTime_60 : decode cX8_policyTime 60 = .ok (.getfield 63, 3) := by decide +kernel
theorem dX8_policyTime_63 : decode cX8_policyTime 63 = .ok (.iload_n 1, 1) := by decide +kernel
theorem dX8_policyTime_64 : decode cX8_policyTime 64 = .ok (.iconst 1, 1) := by decide +kernel
theorem dX8_policyTime_65 : decode cX8_policyTime 65 = .ok (.bastore, 1) := by decide +kernel
theorem dX8_policyTime_66 : decode cX8_policyTime 66 = .ok (.iconst 0, 1) := by decide +kernel
theorem dX8_policyTime_67 : decode cX8_policyTime 67 = .ok (.ireturn, 1) := by decide +kernel
theorem dX8_policyOr_0 : decode cX8_policyOr 0 = .ok (.aload_n 0, 1) := by decide +kernel
theorem dX8_policyOr_1 : decode cX8_policyOr 1 = .ok (.getfield 137, 3) := by decide +kernel
theorem dX8_policyOr_4 : decode cX8_policyOr 4 = .ok (.istore_n 2, 1) := by decide +kernel
theorem dX8_policyOr_5 : decode cX8_policyOr 5 = .ok (.aload_n 0, 1) := by decide +kernel
theorem dX8_policyOr_6 : decode cX8_policyOr 6 = .ok (.iconst 0, 1) := by decide +kernel
theorem dX8_policyOr_7 : decode cX8_policyOr 7 = .ok (.putfield 137, 3) := by decide +kernel
theorem dX8_policyOr_10 : decode cX8_policyOr 10 = .ok (.aload_n 0, 1) := by decide +kernel
theorem dX8_policyOr_11 : decode cX8_policyOr 11 = .ok (.iload_n 1, 1) := by decide +kernel
theorem dX8_policyOr_12 : decode cX8_policyOr 12 = .ok (.invokevirtual 182, 3) := by decide +kernel
theorem dX8_policyOr_15 : decode cX8_policyOr 15 = .ok (.ifCond .eq 23, 3) := by decide +kernel
theorem dX8_policyOr_18 : decode cX8_policyOr 18 = .ok (.iload_n 2, 1) := by decide +kernel
theorem dX8_policyOr_19 : decode cX8_policyOr 19 = .ok (.bipush 32, 2) := by decide +kernel
theorem dX8_policyOr_21 : decode cX8_policyOr 21 = .ok (.irem, 1) := by decide +kernel
theorem dX8_policyOr_22 : decode cX8_policyOr 22 = .ok (.ifCond .ne 16, 3) := by decide +kernel
theorem dX8_policyOr_25 : decode cX8_policyOr 25 = .ok (.iload_n 2, 1) := by decide +kernel
theorem dX8_policyOr_26 : decode cX8_policyOr 26 = .ok (.bipush 64, 2) := by decide +kernel
theorem dX8_policyOr_28 : decode cX8_policyOr 28 = .ok (.if_icmp .lt 10, 3) := by decide +kernel
theorem dX8_policyOr_31 : decode cX8_policyOr 31 = .ok (.iload_n 2, 1) := by decide +kernel
theorem dX8_policyOr_32 : decode cX8_policyOr 32 = .ok (.sipush 256, 3) := by decide +kernel
theorem dX8_policyOr_35 : decode cX8_policyOr 35 = .ok (.if_icmp .le 5, 3) := by decide +kernel
theorem dX8_policyOr_38 : decode cX8_policyOr 38 = .ok (.iconst (-1), 1) := by decide +kernel
theorem dX8_policyOr_39 : decode cX8_policyOr 39 = .ok (.ireturn, 1) := by decide +kernel
theorem dX8_policyOr_40 : decode cX8_policyOr 40 = .ok (.iconst 0, 1) := by decide +kernel
theorem dX8_policyOr_41 : decode cX8_policyOr 41 = .ok (.istore_n 3, 1) := by decide +kernel
theorem dX8_policyOr_42 : decode cX8_policyOr 42 = .ok (.iconst 0, 1) := by decide +kernel
theorem dX8_policyOr_43 : decode cX8_policyOr 43 = .ok (.istore 4, 2) := by decide +kernel
theorem dX8_policyOr_45 : decode cX8_policyOr 45 = .ok (.iload 4, 2) := by decide +kernel
theorem dX8_policyOr_47 : decode cX8_policyOr 47 = .ok (.iload_n 2, 1) := by decide +kernel
theorem dX8_policyOr_48 : decode cX8_policyOr 48 = .ok (.if_icmp .ge 39, 3) := by decide +kernel
theorem dX8_policyOr_51 : decode cX8_policyOr 51 = .ok (.iload_n 3, 1) := by decide +kernel
theorem dX8_policyOr_52 : decode cX8_policyOr 52 = .ok (.ifCond .ne 23, 3) := by decide +kernel
theorem dX8_policyOr_55 : decode cX8_policyOr 55 = .ok (.aload_n 0, 1) := by decide +kernel
theorem dX8_policyOr_56 : decode cX8_policyOr 56 = .ok (.getfield 9, 3) := by decide +kernel
theorem dX8_policyOr_59 : decode cX8_policyOr 59 = .ok (.iload 4, 2) := by decide +kernel
theorem dX8_policyOr_61 : decode cX8_policyOr 61 = .ok (.aload_n 0, 1) := by decide +kernel
theorem dX8_policyOr_62 : decode cX8_policyOr 62 = .ok (.getfield 51, 3) := by decide +kernel
theorem dX8_policyOr_65 : decode cX8_policyOr 65 = .ok (.bipush 32, 2) := by decide +kernel
theorem dX8_policyOr_67 : decode cX8_policyOr 67 = .ok (.iload_n 1, 1) := by decide +kernel
theorem dX8_policyOr_68 : decode cX8_policyOr 68 = .ok (.imul, 1) := by decide +kernel
theorem dX8_policyOr_69 : decode cX8_policyOr 69 = .ok (.invokestatic 189, 3) := by decide +kernel
theorem dX8_policyOr_72 : decode cX8_policyOr 72 = .ok (.ifCond .eq 7, 3) := by decide +kernel
theorem dX8_policyOr_75 : decode cX8_policyOr 75 = .ok (.iconst 1, 1) := by decide +kernel
theorem dX8_policyOr_76 : decode cX8_policyOr 76 = .ok (.goto 4, 3) := by decide +kernel
theorem dX8_policyOr_79 : decode cX8_policyOr 79 = .ok (.iconst 0, 1) := by decide +kernel
theorem dX8_policyOr_80 : decode cX8_policyOr 80 = .ok (.istore_n 3, 1) := by decide +kernel
theorem dX8_policyOr_81 : decode cX8_policyOr 81 = .ok (.iinc 4 32, 3) := by decide +kernel
theorem dX8_policyOr_84 : decode cX8_policyOr 84 = .ok (.goto (-39), 3) := by decide +kernel
theorem dX8_policyOr_87 : decode cX8_policyOr 87 = .ok (.iload_n 3, 1) := by decide +kernel
theorem dX8_policyOr_88 : decode cX8_policyOr 88 = .ok (.ifCond .ne 6, 3) := by decide +kernel
theorem dX8_policyOr_91 : decode cX8_policyOr 91 = .ok (.bipush (-7), 2) := by decide +kernel
theorem dX8_policyOr_93 : decode cX8_policyOr 93 = .ok (.ireturn, 1) := by decide +kernel
theorem dX8_policyOr_94 : decode cX8_policyOr 94 = .ok (.aload_n 0, 1) := by decide +kernel
theorem dX8_policyOr_95 : decode cX8_policyOr 95 = .ok (.iconst 0, 1) := by decide +kernel
theorem dX8_policyOr_96 : decode cX8_policyOr 96 = .ok (.putfield 100, 3) := by decide +kernel
theorem dX8_policyOr_99 : decode cX8_policyOr 99 = .ok (.iconst 0, 1) := by decide +kernel
theorem dX8_policyOr_100 : decode cX8_policyOr 100 = .ok (.istore 4, 2) := by decide +kernel
theorem dX8_policyOr_102 : decode cX8_policyOr 102 = .ok (.iload 4, 2) := by decide +kernel
theorem dX8_policyOr_104 : decode cX8_policyOr 104 = .ok (.bipush 32, 2) := by decide +kernel
theorem dX8_policyOr_106 : decode cX8_policyOr 106 = .ok (.if_icmp .ge 14, 3) := by decide +kernel
theorem dX8_policyOr_109 : decode cX8_policyOr 109 = .ok (.aload_n 0, 1) := by decide +kernel
theorem dX8_policyOr_110 : decode cX8_policyOr 110 = .ok (.iconst 0, 1) := by decide +kernel
theorem dX8_policyOr_111 : decode cX8_policyOr 111 = .ok (.invokevirtual 104, 3) := by decide +kernel
theorem dX8_policyOr_114 : decode cX8_policyOr 114 = .ok (.iinc 4 1, 3) := by decide +kernel
theorem dX8_policyOr_117 : decode cX8_policyOr 117 = .ok (.goto (-15), 3) := by decide +kernel
theorem dX8_policyOr_120 : decode cX8_policyOr 120 = .ok (.aload_n 0, 1) := by decide +kernel
theorem dX8_policyOr_121 : decode cX8_policyOr 121 = .ok (.iconst 5, 1) := by decide +kernel
theorem dX8_policyOr_122 : decode cX8_policyOr 122 = .ok (.invokevirtual 104, 3) := by decide +kernel
theorem dX8_policyOr_125 : decode cX8_policyOr 125 = .ok (.aload_n 0, 1) := by decide +kernel
theorem dX8_policyOr_126 : decode cX8_policyOr 126 = .ok (.aload_n 0, 1) := by decide +kernel
theorem dX8_policyOr_127 : decode cX8_policyOr 127 = .ok (.getfield 9, 3) := by decide +kernel
theorem dX8_policyOr_130 : decode cX8_policyOr 130 = .ok (.iconst 0, 1) := by decide +kernel
theorem dX8_policyOr_131 : decode cX8_policyOr 131 = .ok (.iload_n 2, 1) := by decide +kernel
theorem dX8_policyOr_132 : decode cX8_policyOr 132 = .ok (.invokevirtual 134, 3) := by decide +kernel
theorem dX8_policyOr_135 : decode cX8_policyOr 135 = .ok (.aload_n 0, 1) := by decide +kernel
theorem dX8_policyOr_136 : decode cX8_policyOr 136 = .ok (.aload_n 0, 1) := by decide +kernel
theorem dX8_policyOr_137 : decode cX8_policyOr 137 = .ok (.getfield 51, 3) := by decide +kernel
theorem dX8_policyOr_140 : decode cX8_policyOr 140 = .ok (.bipush 32, 2) := by decide +kernel
theorem dX8_policyOr_142 : decode cX8_policyOr 142 = .ok (.iload_n 1, 1) := by decide +kernel
theorem dX8_policyOr_143 : decode cX8_policyOr 143 = .ok (.imul, 1) := by decide +kernel
theorem dX8_policyOr_144 : decode cX8_policyOr 144 = .ok (.invokevirtual 111, 3) := by decide +kernel
theorem dX8_policyOr_147 : decode cX8_policyOr 147 = .ok (.iconst 0, 1) := by decide +kernel
theorem dX8_policyOr_148 : decode cX8_policyOr 148 = .ok (.ireturn, 1) := by decide +kernel
theorem dX8_digest_0 : decode cX8_digest 0 = .ok (.aload_n 0, 1) := by decide +kernel
theorem dX8_digest_1 : decode cX8_digest 1 = .ok (.iload_n 1, 1) := by decide +kernel
theorem dX8_digest_2 : decode cX8_digest 2 = .ok (.invokevirtual 182, 3) := by decide +kernel
theorem dX8_digest_5 : decode cX8_digest 5 = .ok (.ifCond .ne 5, 3) := by decide +kernel
theorem dX8_digest_8 : decode cX8_digest 8 = .ok (.iconst (-1), 1) := by decide +kernel
theorem dX8_digest_9 : decode cX8_digest 9 = .ok (.ireturn, 1) := by decide +kernel
theorem dX8_digest_10 : decode cX8_digest 10 = .ok (.iconst 0, 1) := by decide +kernel
theorem dX8_digest_11 : decode cX8_digest 11 = .ok (.istore_n 2, 1) := by decide +kernel
theorem dX8_digest_12 : decode cX8_digest 12 = .ok (.iload_n 2, 1) := by decide +kernel
theorem dX8_digest_13 : decode cX8_digest 13 = .ok (.bipush 32, 2) := by decide +kernel
theorem dX8_digest_15 : decode cX8_digest 15 = .ok (.if_icmp .ge 26, 3) := by decide +kernel
theorem dX8_digest_18 : decode cX8_digest 18 = .ok (.aload_n 0, 1) := by decide +kernel
theorem dX8_digest_19 : decode cX8_digest 19 = .ok (.getfield 13, 3) := by decide +kernel
theorem dX8_digest_22 : decode cX8_digest 22 = .ok (.iload_n 2, 1) := by decide +kernel
theorem dX8_digest_23 : decode cX8_digest 23 = .ok (.aload_n 0, 1) := by decide +kernel
theorem dX8_digest_24 : decode cX8_digest 24 = .ok (.getfield 51, 3) := by decide +kernel
theorem dX8_digest_27 : decode cX8_digest 27 = .ok (.bipush 32, 2) := by decide +kernel
theorem dX8_digest_29 : decode cX8_digest 29 = .ok (.iload_n 1, 1) := by decide +kernel
theorem dX8_digest_30 : decode cX8_digest 30 = .ok (.imul, 1) := by decide +kernel
theorem dX8_digest_31 : decode cX8_digest 31 = .ok (.iload_n 2, 1) := by decide +kernel
theorem dX8_digest_32 : decode cX8_digest 32 = .ok (.iadd, 1) := by decide +kernel
theorem dX8_digest_33 : decode cX8_digest 33 = .ok (.baload, 1) := by decide +kernel
theorem dX8_digest_34 : decode cX8_digest 34 = .ok (.bastore, 1) := by decide +kernel
theorem dX8_digest_35 : decode cX8_digest 35 = .ok (.iinc 2 1, 3) := by decide +kernel
theorem dX8_digest_38 : decode cX8_digest 38 = .ok (.goto (-26), 3) := by decide +kernel
theorem dX8_digest_41 : decode cX8_digest 41 = .ok (.aload_n 0, 1) := by decide +kernel
theorem dX8_digest_42 : decode cX8_digest 42 = .ok (.invokevirtual 149, 3) := by decide +kernel
theorem dX8_digest_45 : decode cX8_digest 45 = .ok (.ireturn, 1) := by decide +kernel
theorem dX8_compared_0 : decode cX8_compared 0 = .ok (.aload_n 0, 1) := by decide +kernel
theorem dX8_compared_1 : decode cX8_compared 1 = .ok (.getfield 193, 3) := by decide +kernel
theorem dX8_compared_4 : decode cX8_compared 4 = .ok (.iconst 4, 1) := by decide +kernel
theorem dX8_compared_5 : decode cX8_compared 5 = .ok (.if_icmp .lt 6, 3) := by decide +kernel
theorem dX8_compared_8 : decode cX8_compared 8 = .ok (.bipush (-5), 2) := by decide +kernel
theorem dX8_compared_10 : decode cX8_compared 10 = .ok (.ireturn, 1) := by decide +kernel
theorem dX8_compared_11 : decode cX8_compared 11 = .ok (.aload_n 0, 1) := by decide +kernel
theorem dX8_compared_12 : decode cX8_compared 12 = .ok (.getfield 38, 3) := by decide +kernel
theorem dX8_compared_15 : decode cX8_compared 15 = .ok (.iconst 0, 1) := by decide +kernel
theorem dX8_compared_16 : decode cX8_compared 16 = .ok (.aload_n 1, 1) := by decide +kernel
theorem dX8_compared_17 : decode cX8_compared 17 = .ok (.iload_n 2, 1) := by decide +kernel
theorem dX8_compared_18 : decode cX8_compared 18 = .ok (.invokestatic 189, 3) := by decide +kernel
theorem dX8_compared_21 : decode cX8_compared 21 = .ok (.ifCond .eq 5, 3) := by decide +kernel
theorem dX8_compared_24 : decode cX8_compared 24 = .ok (.iconst 0, 1) := by decide +kernel
theorem dX8_compared_25 : decode cX8_compared 25 = .ok (.ireturn, 1) := by decide +kernel
theorem dX8_compared_26 : decode cX8_compared 26 = .ok (.aload_n 0, 1) := by decide +kernel
theorem dX8_compared_27 : decode cX8_compared 27 = .ok (.dup, 1) := by decide +kernel
theorem dX8_compared_28 : decode cX8_compared 28 = .ok (.getfield 193, 3) := by decide +kernel
theorem dX8_compared_31 : decode cX8_compared 31 = .ok (.iconst 1, 1) := by decide +kernel
theorem dX8_compared_32 : decode cX8_compared 32 = .ok (.iadd, 1) := by decide +kernel
theorem dX8_compared_33 : decode cX8_compared 33 = .ok (.putfield 193, 3) := by decide +kernel
theorem dX8_compared_36 : decode cX8_compared 36 = .ok (.bipush (-4), 2) := by decide +kernel
theorem dX8_compared_38 : decode cX8_compared 38 = .ok (.ireturn, 1) := by decide +kernel
theorem dX8_by_0 : decode cX8_by 0 = .ok (.iload_n 2, 1) := by decide +kernel
theorem dX8_by_1 : decode cX8_by 1 = .ok (.iconst (-1), 1) := by decide +kernel
theorem dX8_by_2 : decode cX8_by 2 = .ok (.if_icmp .ne 16, 3) := by decide +kernel
theorem dX8_by_5 : decode cX8_by 5 = .ok (.aload_n 0, 1) := by decide +kernel
theorem dX8_by_6 : decode cX8_by 6 = .ok (.aload_n 0, 1) := by decide +kernel
theorem dX8_by_7 : decode cX8_by 7 = .ok (.getfield 76, 3) := by decide +kernel
theorem dX8_by_10 : decode cX8_by 10 = .ok (.bipush 32, 2) := by decide +kernel
theorem dX8_by_12 : decode cX8_by 12 = .ok (.iload_n 1, 1) := by decide +kernel
theorem dX8_by_13 : decode cX8_by 13 = .ok (.imul, 1) := by decide +kernel
theorem dX8_by_14 : decode cX8_by 14 = .ok (.invokevirtual 196, 3) := by decide +kernel
theorem dX8_by_17 : decode cX8_by 17 = .ok (.ireturn, 1) := by decide +kernel
theorem dX8_by_18 : decode cX8_by 18 = .ok (.aload_n 0, 1) := by decide +kernel
theorem dX8_by_19 : decode cX8_by 19 = .ok (.iload_n 2, 1) := by decide +kernel
theorem dX8_by_20 : decode cX8_by 20 = .ok (.invokevirtual 182, 3) := by decide +kernel
theorem dX8_by_23 : decode cX8_by 23 = .ok (.ifCond .ne 5, 3) := by decide +kernel
theorem dX8_by_26 : decode cX8_by 26 = .ok (.iconst (-1), 1) := by decide +kernel
theorem dX8_by_27 : decode cX8_by 27 = .ok (.ireturn, 1) := by decide +kernel
theorem dX8_by_28 : decode cX8_by 28 = .ok (.iconst 1, 1) := by decide +kernel
theorem dX8_by_29 : decode cX8_by 29 = .ok (.istore 4, 2) := by decide +kernel
theorem dX8_by_31 : decode cX8_by 31 = .ok (.iconst 0, 1) := by decide +kernel
theorem dX8_by_32 : decode cX8_by 32 = .ok (.istore 5, 2) := by decide +kernel
theorem dX8_by_34 : decode cX8_by 34 = .ok (.iload 5, 2) := by decide +kernel
theorem dX8_by_36 : decode cX8_by 36 = .ok (.bipush 32, 2) := by decide +kernel
theorem dX8_by_38 : decode cX8_by 38 = .ok (.if_icmp .ge 36, 3) := by decide +kernel
theorem dX8_by_41 : decode cX8_by 41 = .ok (.iload 4, 2) := by decide +kernel
theorem dX8_by_43 : decode cX8_by 43 = .ok (.ifCond .eq 22, 3) := by decide +kernel
theorem dX8_by_46 : decode cX8_by 46 = .ok (.aload_n 0, 1) := by decide +kernel
theorem dX8_by_47 : decode cX8_by 47 = .ok (.getfield 79, 3) := by decide +kernel
theorem dX8_by_50 : decode cX8_by 50 = .ok (.bipush 32, 2) := by decide +kernel
theorem dX8_by_52 : decode cX8_by 52 = .ok (.iload_n 1, 1) := by decide +kernel
theorem dX8_by_53 : decode cX8_by 53 = .ok (.imul, 1) := by decide +kernel
theorem dX8_by_54 : decode cX8_by 54 = .ok (.iload 5, 2) := by decide +kernel
theorem dX8_by_56 : decode cX8_by 56 = .ok (.iadd, 1) := by decide +kernel
theorem dX8_by_57 : decode cX8_by 57 = .ok (.baload, 1) := by decide +kernel
theorem dX8_by_58 : decode cX8_by 58 = .ok (.ifCond .ne 7, 3) := by decide +kernel
theorem dX8_by_61 : decode cX8_by 61 = .ok (.iconst 1, 1) := by decide +kernel
theorem dX8_by_62 : decode cX8_by 62 = .ok (.goto 4, 3) := by decide +kernel
theorem dX8_by_65 : decode cX8_by 65 = .ok (.iconst 0, 1) := by decide +kernel
theorem dX8_by_66 : decode cX8_by 66 = .ok (.istore 4, 2) := by decide +kernel
theorem dX8_by_68 : decode cX8_by 68 = .ok (.iinc 5 1, 3) := by decide +kernel
theorem dX8_by_71 : decode cX8_by 71 = .ok (.goto (-37), 3) := by decide +kernel
theorem dX8_by_74 : decode cX8_by 74 = .ok (.iload 4, 2) := by decide +kernel
theorem dX8_by_76 : decode cX8_by 76 = .ok (.ifCond .ne 25, 3) := by decide +kernel
theorem dX8_by_79 : decode cX8_by 79 = .ok (.aload_n 0, 1) := by decide +kernel
theorem dX8_by_80 : decode cX8_by 80 = .ok (.getfield 79, 3) := by decide +kernel
theorem dX8_by_83 : decode cX8_by 83 = .ok (.bipush 32, 2) := by decide +kernel
theorem dX8_by_85 : decode cX8_by 85 = .ok (.iload_n 1, 1) := by decide +kernel
theorem dX8_by_86 : decode cX8_by 86 = .ok (.imul, 1) := by decide +kernel
theorem dX8_by_87 : decode cX8_by 87 = .ok (.aload_n 0, 1) := by decide +kernel
theorem dX8_by_88 : decode cX8_by 88 = .ok (.getfield 51, 3) := by decide +kernel
theorem dX8_by_91 : decode cX8_by 91 = .ok (.bipush 32, 2) := by decide +kernel
theorem dX8_by_93 : decode cX8_by 93 = .ok (.iload_n 2, 1) := by decide +kernel
theorem dX8_by_94 : decode cX8_by 94 = .ok (.imul, 1) := by decide +kernel
theorem dX8_by_95 : decode cX8_by 95 = .ok (.invokestatic 189, 3) := by decide +kernel
theorem dX8_by_98 : decode cX8_by 98 = .ok (.ifCond .ne 6, 3) := by decide +kernel
theorem dX8_by_101 : decode cX8_by 101 = .ok (.bipush (-7), 2) := by decide +kernel
theorem dX8_by_103 : decode cX8_by 103 = .ok (.ireturn, 1) := by decide +kernel
theorem dX8_by_104 : decode cX8_by 104 = .ok (.aload_n 0, 1) := by decide +kernel
theorem dX8_by_105 : decode cX8_by 105 = .ok (.getfield 54, 3) := by decide +kernel
theorem dX8_by_108 : decode cX8_by 108 = .ok (.iload_n 2, 1) := by decide +kernel
theorem dX8_by_109 : decode cX8_by 109 = .ok (.baload, 1) := by decide +kernel
theorem dX8_by_110 : decode cX8_by 110 = .ok (.ifCond .eq 12, 3) := by decide +kernel
theorem dX8_by_113 : decode cX8_by 113 = .ok (.aload_n 0, 1) := by decide +kernel
theorem dX8_by_114 : decode cX8_by 114 = .ok (.getfield 57, 3) := by decide +kernel
theorem dX8_by_117 : decode cX8_by 117 = .ok (.iload_n 2, 1) := by decide +kernel
theorem dX8_by_118 : decode cX8_by 118 = .ok (.baload, 1) := by decide +kernel
theorem dX8_by_119 : decode cX8_by 119 = .ok (.ifCond .ne 44, 3) := by decide +kernel
theorem dX8_by_122 : decode cX8_by 122 = .ok (.aload_n 0, 1) := by decide +kernel
theorem dX8_by_123 : decode cX8_by 123 = .ok (.getfield 66, 3) := by decide +kernel
theorem dX8_by_126 : decode cX8_by 126 = .ok (.iload_n 2, 1) := by decide +kernel
theorem dX8_by_127 : decode cX8_by 127 = .ok (.iaload, 1) := by decide +kernel
theorem dX8_by_128 : decode cX8_by 128 = .ok (.ifCond .eq 13, 3) := by decide +kernel
theorem dX8_by_131 : decode cX8_by 131 = .ok (.aload_n 0, 1) := by decide +kernel
theorem dX8_by_132 : decode cX8_by 132 = .ok (.getfield 66, 3) := by decide +kernel
theorem dX8_by_135 : decode cX8_by 135 = .ok (.iload_n 2, 1) := by decide +kernel
theorem dX8_by_136 : decode cX8_by 136 = .ok (.iaload, 1) := by decide +kernel
theorem dX8_by_137 : decode cX8_by 137 = .ok (.iload_n 3, 1) := by decide +kernel
theorem dX8_by_138 : decode cX8_by 138 = .ok (.if_icmp .ne 25, 3) := by decide +kernel
theorem dX8_by_141 : decode cX8_by 141 = .ok (.aload_n 0, 1) := by decide +kernel
theorem dX8_by_142 : decode cX8_by 142 = .ok (.getfield 63, 3) := by decide +kernel
theorem dX8_by_145 : decode cX8_by 145 = .ok (.iload_n 2, 1) := by decide +kernel
theorem dX8_by_146 : decode cX8_by 146 = .ok (.baload, 1) := by decide +kernel
theorem dX8_by_147 : decode cX8_by 147 = .ok (.ifCond .eq 19, 3) := by decide +kernel
theorem dX8_by_150 : decode cX8_by 150 = .ok (.aload_n 0, 1) := by decide +kernel
theorem dX8_by_151 : decode cX8_by 151 = .ok (.getfield 163, 3) := by decide +kernel
theorem dX8_by_154 : decode cX8_by 154 = .ok (.aload_n 0, 1) := by decide +kernel
theorem dX8_by_155 : decode cX8_by 155 = .ok (.getfield 70, 3) := by decide +kernel
theorem dX8_by_158 : decode cX8_by 158 = .ok (.iload_n 2, 1) := by decide +kernel
theorem dX8_by_159 : decode cX8_by 159 = .ok (.iaload, 1) := by decide +kernel
theorem dX8_by_160 : decode cX8_by 160 = .ok (.if_icmp .le 6, 3) := by decide +kernel
theorem dX8_by_163 : decode cX8_by 163 = .ok (.bipush (-7), 2) := by decide +kernel
theorem dX8_by_165 : decode cX8_by 165 = .ok (.ireturn, 1) := by decide +kernel
theorem dX8_by_166 : decode cX8_by 166 = .ok (.aload_n 0, 1) := by decide +kernel
theorem dX8_by_167 : decode cX8_by 167 = .ok (.getfield 60, 3) := by decide +kernel
theorem dX8_by_170 : decode cX8_by 170 = .ok (.iload_n 2, 1) := by decide +kernel
theorem dX8_by_171 : decode cX8_by 171 = .ok (.baload, 1) := by decide +kernel
theorem dX8_by_172 : decode cX8_by 172 = .ok (.ifCond .eq 18, 3) := by decide +kernel
theorem dX8_by_175 : decode cX8_by 175 = .ok (.aload_n 0, 1) := by decide +kernel
theorem dX8_by_176 : decode cX8_by 176 = .ok (.aload_n 0, 1) := by decide +kernel
theorem dX8_by_177 : decode cX8_by 177 = .ok (.getfield 76, 3) := by decide +kernel
theorem dX8_by_180 : decode cX8_by 180 = .ok (.bipush 32, 2) := by decide +kernel
theorem dX8_by_182 : decode cX8_by 182 = .ok (.iload_n 1, 1) := by decide +kernel
theorem dX8_by_183 : decode cX8_by 183 = .ok (.imul, 1) := by decide +kernel
theorem dX8_by_184 : decode cX8_by 184 = .ok (.invokevirtual 196, 3) := by decide +kernel
theorem dX8_by_187 : decode cX8_by 187 = .ok (.goto 4, 3) := by decide +kernel
theorem dX8_by_190 : decode cX8_by 190 = .ok (.iconst 0, 1) := by decide +kernel
theorem dX8_by_191 : decode cX8_by 191 = .ok (.istore 5, 2) := by decide +kernel
theorem dX8_by_193 : decode cX8_by 193 = .ok (.iload 5, 2) := by decide +kernel
theorem dX8_by_195 : decode cX8_by 195 = .ok (.ifCond .ne 10, 3) := by decide +kernel
theorem dX8_by_198 : decode cX8_by 198 = .ok (.aload_n 0, 1) := by decide +kernel
theorem dX8_by_199 : decode cX8_by 199 = .ok (.getfield 47, 3) := by decide +kernel
theorem dX8_by_202 : decode cX8_by 202 = .ok (.iload_n 2, 1) := by decide +kernel
theorem dX8_by_203 : decode cX8_by 203 = .ok (.iconst 0, 1) := by decide +kernel
theorem dX8_by_204 : decode cX8_by 204 = .ok (.bastore, 1) := by decide +kernel
theorem dX8_by_205 : decode cX8_by 205 = .ok (.iload 5, 2) := by decide +kernel
theorem dX8_by_207 : decode cX8_by 207 = .ok (.ireturn, 1) := by decide +kernel
theorem dX8_owners_0 : decode cX8_owners 0 = .ok (.aload_n 0, 1) := by decide +kernel
theorem dX8_owners_1 : decode cX8_owners 1 = .ok (.aload_n 0, 1) := by decide +kernel
theorem dX8_owners_2 : decode cX8_owners 2 = .ok (.getfield 41, 3) := by decide +kernel
theorem dX8_owners_5 : decode cX8_owners 5 = .ok (.iconst 0, 1) := by decide +kernel
theorem dX8_owners_6 : decode cX8_owners 6 = .ok (.invokevirtual 196, 3) := by decide +kernel
theorem dX8_owners_9 : decode cX8_owners 9 = .ok (.ireturn, 1) := by decide +kernel
theorem dX8_number_0 : decode cX8_number 0 = .ok (.bipush 24, 2) := by decide +kernel
theorem dX8_number_2 : decode cX8_number 2 = .ok (.istore_n 2, 1) := by decide +kernel
theorem dX8_number_3 : decode cX8_number 3 = .ok (.iload_n 2, 1) := by decide +kernel
theorem dX8_number_4 : decode cX8_number 4 = .ok (.ifCond .lt 32, 3) := by decide +kernel
theorem dX8_number_7 : decode cX8_number 7 = .ok (.aload_n 0, 1) := by decide +kernel
theorem dX8_number_8 : decode cX8_number 8 = .ok (.getfield 32, 3) := by decide +kernel
theorem dX8_number_11 : decode cX8_number 11 = .ok (.aload_n 0, 1) := by decide +kernel
theorem dX8_number_12 : decode cX8_number 12 = .ok (.getfield 131, 3) := by decide +kernel
theorem dX8_number_15 : decode cX8_number 15 = .ok (.iload_n 1, 1) := by decide +kernel
theorem dX8_number_16 : decode cX8_number 16 = .ok (.iload_n 2, 1) := by decide +kernel
theorem dX8_number_17 : decode cX8_number 17 = .ok (.ishr, 1) := by decide +kernel
theorem dX8_number_18 : decode cX8_number 18 = .ok (.i2b, 1) := by decide +kernel
theorem dX8_number_19 : decode cX8_number 19 = .ok (.bastore, 1) := by decide +kernel
theorem dX8_number_20 : decode cX8_number 20 = .ok (.aload_n 0, 1) := by decide +kernel
theorem dX8_number_21 : decode cX8_number 21 = .ok (.dup, 1) := by decide +kernel
theorem dX8_number_22 : decode cX8_number 22 = .ok (.getfield 131, 3) := by decide +kernel
theorem dX8_number_25 : decode cX8_number 25 = .ok (.iconst 1, 1) := by decide +kernel
theorem dX8_number_26 : decode cX8_number 26 = .ok (.iadd, 1) := by decide +kernel
theorem dX8_number_27 : decode cX8_number 27 = .ok (.putfield 131, 3) := by decide +kernel
theorem dX8_number_30 : decode cX8_number 30 = .ok (.iinc 2 (-8), 3) := by decide +kernel
theorem dX8_number_33 : decode cX8_number 33 = .ok (.goto (-30), 3) := by decide +kernel
theorem dX8_number_36 : decode cX8_number 36 = .ok (.return_, 1) := by decide +kernel
theorem dX8_mix_0 : decode cX8_mix 0 = .ok (.aload_n 0, 1) := by decide +kernel
theorem dX8_mix_1 : decode cX8_mix 1 = .ok (.bipush 69, 2) := by decide +kernel
theorem dX8_mix_3 : decode cX8_mix 3 = .ok (.invokevirtual 172, 3) := by decide +kernel
theorem dX8_mix_6 : decode cX8_mix 6 = .ok (.aload_n 0, 1) := by decide +kernel
theorem dX8_mix_7 : decode cX8_mix 7 = .ok (.iload 4, 2) := by decide +kernel
theorem dX8_mix_9 : decode cX8_mix 9 = .ok (.invokevirtual 200, 3) := by decide +kernel
theorem dX8_mix_12 : decode cX8_mix 12 = .ok (.aload_n 0, 1) := by decide +kernel
theorem dX8_mix_13 : decode cX8_mix 13 = .ok (.aload_n 0, 1) := by decide +kernel
theorem dX8_mix_14 : decode cX8_mix 14 = .ok (.getfield 29, 3) := by decide +kernel
theorem dX8_mix_17 : decode cX8_mix 17 = .ok (.iconst 0, 1) := by decide +kernel
theorem dX8_mix_18 : decode cX8_mix 18 = .ok (.invokevirtual 175, 3) := by decide +kernel
theorem dX8_mix_21 : decode cX8_mix 21 = .ok (.iconst 0, 1) := by decide +kernel
theorem dX8_mix_22 : decode cX8_mix 22 = .ok (.istore 5, 2) := by decide +kernel
theorem dX8_mix_24 : decode cX8_mix 24 = .ok (.iload 5, 2) := by decide +kernel
theorem dX8_mix_26 : decode cX8_mix 26 = .ok (.iload_n 3, 1) := by decide +kernel
theorem dX8_mix_27 : decode cX8_mix 27 = .ok (.if_icmp .ge 71, 3) := by decide +kernel
theorem dX8_mix_30 : decode cX8_mix 30 = .ok (.iload 5, 2) := by decide +kernel
theorem dX8_mix_32 : decode cX8_mix 32 = .ok (.bipush 32, 2) := by decide +kernel
theorem dX8_mix_34 : decode cX8_mix 34 = .ok (.irem, 1) := by decide +kernel
theorem dX8_mix_35 : decode cX8_mix 35 = .ok (.ifCond .ne 37, 3) := by decide +kernel
theorem dX8_mix_38 : decode cX8_mix 38 = .ok (.aload_n 0, 1) := by decide +kernel
theorem dX8_mix_39 : decode cX8_mix 39 = .ok (.iconst 0, 1) := by decide +kernel
theorem dX8_mix_40 : decode cX8_mix 40 = .ok (.putfield 100, 3) := by decide +kernel
theorem dX8_mix_43 : decode cX8_mix 43 = .ok (.aload_n 0, 1) := by decide +kernel
theorem dX8_mix_44 : decode cX8_mix 44 = .ok (.aload_n 0, 1) := by decide +kernel
theorem dX8_mix_45 : decode cX8_mix 45 = .ok (.getfield 29, 3) := by decide +kernel
theorem dX8_mix_48 : decode cX8_mix 48 = .ok (.iconst 0, 1) := by decide +kernel
theorem dX8_mix_49 : decode cX8_mix 49 = .ok (.bipush 32, 2) := by decide +kernel
theorem dX8_mix_51 : decode cX8_mix 51 = .ok (.invokevirtual 134, 3) := by decide +kernel
theorem dX8_mix_54 : decode cX8_mix 54 = .ok (.aload_n 0, 1) := by decide +kernel
theorem dX8_mix_55 : decode cX8_mix 55 = .ok (.iload 5, 2) := by decide +kernel
theorem dX8_mix_57 : decode cX8_mix 57 = .ok (.bipush 32, 2) := by decide +kernel
theorem dX8_mix_59 : decode cX8_mix 59 = .ok (.idiv, 1) := by decide +kernel
theorem dX8_mix_60 : decode cX8_mix 60 = .ok (.invokevirtual 104, 3) := by decide +kernel
theorem dX8_mix_63 : decode cX8_mix 63 = .ok (.aload_n 0, 1) := by decide +kernel
theorem dX8_mix_64 : decode cX8_mix 64 = .ok (.aload_n 0, 1) := by decide +kernel
theorem dX8_mix_65 : decode cX8_mix 65 = .ok (.getfield 26, 3) := by decide +kernel
theorem dX8_mix_68 : decode cX8_mix 68 = .ok (.iconst 0, 1) := by decide +kernel
theorem dX8_mix_69 : decode cX8_mix 69 = .ok (.invokevirtual 111, 3) := by decide +kernel
theorem dX8_mix_72 : decode cX8_mix 72 = .ok (.aload_n 1, 1) := by decide +kernel
theorem dX8_mix_73 : decode cX8_mix 73 = .ok (.iload_n 2, 1) := by decide +kernel
theorem dX8_mix_74 : decode cX8_mix 74 = .ok (.iload 5, 2) := by decide +kernel
theorem dX8_mix_76 : decode cX8_mix 76 = .ok (.iadd, 1) := by decide +kernel
theorem dX8_mix_77 : decode cX8_mix 77 = .ok (.dup2, 1) := by decide +kernel
theorem dX8_mix_78 : decode cX8_mix 78 = .ok (.baload, 1) := by decide +kernel
theorem dX8_mix_79 : decode cX8_mix 79 = .ok (.aload_n 0, 1) := by decide +kernel
theorem dX8_mix_80 : decode cX8_mix 80 = .ok (.getfield 26, 3) := by decide +kernel
theorem dX8_mix_83 : decode cX8_mix 83 = .ok (.iload 5, 2) := by decide +kernel
theorem dX8_mix_85 : decode cX8_mix 85 = .ok (.bipush 32, 2) := by decide +kernel
theorem dX8_mix_87 : decode cX8_mix 87 = .ok (.irem, 1) := by decide +kernel
theorem dX8_mix_88 : decode cX8_mix 88 = .ok (.baload, 1) := by decide +kernel
theorem dX8_mix_89 : decode cX8_mix 89 = .ok (.ixor, 1) := by decide +kernel
theorem dX8_mix_90 : decode cX8_mix 90 = .ok (.i2b, 1) := by decide +kernel
theorem dX8_mix_91 : decode cX8_mix 91 = .ok (.bastore, 1) := by decide +kernel
theorem dX8_mix_92 : decode cX8_mix 92 = .ok (.iinc 5 1, 3) := by decide +kernel
theorem dX8_mix_95 : decode cX8_mix 95 = .ok (.goto (-71), 3) := by decide +kernel
theorem dX8_mix_98 : decode cX8_mix 98 = .ok (.return_, 1) := by decide +kernel
theorem dX8_sealTo_0 : decode cX8_sealTo 0 = .ok (.aload_n 0, 1) := by decide +kernel
theorem dX8_sealTo_1 : decode cX8_sealTo 1 = .ok (.bipush 77, 2) := by decide +kernel
theorem dX8_sealTo_3 : decode cX8_sealTo 3 = .ok (.invokevirtual 172, 3) := by decide +kernel
theorem dX8_sealTo_6 : decode cX8_sealTo 6 = .ok (.aload_n 0, 1) := by decide +kernel
theorem dX8_sealTo_7 : decode cX8_sealTo 7 = .ok (.iload_n 3, 1) := by decide +kernel
theorem dX8_sealTo_8 : decode cX8_sealTo 8 = .ok (.invokevirtual 200, 3) := by decide +kernel
theorem dX8_sealTo_11 : decode cX8_sealTo 11 = .ok (.aload_n 0, 1) := by decide +kernel
theorem dX8_sealTo_12 : decode cX8_sealTo 12 = .ok (.aload_n 0, 1) := by decide +kernel
theorem dX8_sealTo_13 : decode cX8_sealTo 13 = .ok (.getfield 29, 3) := by decide +kernel
theorem dX8_sealTo_16 : decode cX8_sealTo 16 = .ok (.iconst 0, 1) := by decide +kernel
theorem dX8_sealTo_17 : decode cX8_sealTo 17 = .ok (.invokevirtual 175, 3) := by decide +kernel
theorem dX8_sealTo_20 : decode cX8_sealTo 20 = .ok (.aload_n 0, 1) := by decide +kernel
theorem dX8_sealTo_21 : decode cX8_sealTo 21 = .ok (.iload_n 2, 1) := by decide +kernel
theorem dX8_sealTo_22 : decode cX8_sealTo 22 = .ok (.putfield 131, 3) := by decide +kernel
theorem dX8_sealTo_25 : decode cX8_sealTo 25 = .ok (.iconst 0, 1) := by decide +kernel
theorem dX8_sealTo_26 : decode cX8_sealTo 26 = .ok (.istore 6, 2) := by decide +kernel
theorem dX8_sealTo_28 : decode cX8_sealTo 28 = .ok (.iload 6, 2) := by decide +kernel
theorem dX8_sealTo_30 : decode cX8_sealTo 30 = .ok (.iload_n 2, 1) := by decide +kernel
theorem dX8_sealTo_31 : decode cX8_sealTo 31 = .ok (.if_icmp .ge 20, 3) := by decide +kernel
theorem dX8_sealTo_34 : decode cX8_sealTo 34 = .ok (.aload_n 0, 1) := by decide +kernel
theorem dX8_sealTo_35 : decode cX8_sealTo 35 = .ok (.getfield 32, 3) := by decide +kernel
theorem dX8_sealTo_38 : decode cX8_sealTo 38 = .ok (.iload 6, 2) := by decide +kernel
theorem dX8_sealTo_40 : decode cX8_sealTo 40 = .ok (.aload_n 1, 1) := by decide +kernel
theorem dX8_sealTo_41 : decode cX8_sealTo 41 = .ok (.iload 6, 2) := by decide +kernel
theorem dX8_sealTo_43 : decode cX8_sealTo 43 = .ok (.baload, 1) := by decide +kernel
theorem dX8_sealTo_44 : decode cX8_sealTo 44 = .ok (.bastore, 1) := by decide +kernel
theorem dX8_sealTo_45 : decode cX8_sealTo 45 = .ok (.iinc 6 1, 3) := by decide +kernel
theorem dX8_sealTo_48 : decode cX8_sealTo 48 = .ok (.goto (-20), 3) := by decide +kernel
theorem dX8_sealTo_51 : decode cX8_sealTo 51 = .ok (.aload_n 0, 1) := by decide +kernel
theorem dX8_sealTo_52 : decode cX8_sealTo 52 = .ok (.aload 4, 2) := by decide +kernel
theorem dX8_sealTo_54 : decode cX8_sealTo 54 = .ok (.iload 5, 2) := by decide +kernel
theorem dX8_sealTo_56 : decode cX8_sealTo 56 = .ok (.invokevirtual 175, 3) := by decide +kernel
theorem dX8_sealTo_59 : decode cX8_sealTo 59 = .ok (.return_, 1) := by decide +kernel
theorem dX8_seal_0 : decode cX8_seal 0 = .ok (.aload_n 0, 1) := by decide +kernel
theorem dX8_seal_1 : decode cX8_seal 1 = .ok (.getfield 137, 3) := by decide +kernel
theorem dX8_seal_4 : decode cX8_seal 4 = .ok (.istore_n 2, 1) := by decide +kernel
theorem dX8_seal_5 : decode cX8_seal 5 = .ok (.aload_n 0, 1) := by decide +kernel
theorem dX8_seal_6 : decode cX8_seal 6 = .ok (.iconst 0, 1) := by decide +kernel
theorem dX8_seal_7 : decode cX8_seal 7 = .ok (.putfield 137, 3) := by decide +kernel
theorem dX8_seal_10 : decode cX8_seal 10 = .ok (.iload_n 1, 1) := by decide +kernel
theorem dX8_seal_11 : decode cX8_seal 11 = .ok (.iconst (-1), 1) := by decide +kernel
theorem dX8_seal_12 : decode cX8_seal 12 = .ok (.if_icmp .eq 11, 3) := by decide +kernel
theorem dX8_seal_15 : decode cX8_seal 15 = .ok (.aload_n 0, 1) := by decide +kernel
theorem dX8_seal_16 : decode cX8_seal 16 = .ok (.iload_n 1, 1) := by decide +kernel
theorem dX8_seal_17 : decode cX8_seal 17 = .ok (.invokevirtual 182, 3) := by decide +kernel
theorem dX8_seal_20 : decode cX8_seal 20 = .ok (.ifCond .eq 10, 3) := by decide +kernel
theorem dX8_seal_23 : decode cX8_seal 23 = .ok (.iload_n 2, 1) := by decide +kernel
theorem dX8_seal_24 : decode cX8_seal 24 = .ok (.sipush 128, 3) := by decide +kernel
theorem dX8_seal_27 : decode cX8_seal 27 = .ok (.if_icmp .le 5, 3) := by decide +kernel
theorem dX8_seal_30 : decode cX8_seal 30 = .ok (.iconst (-1), 1) := by decide +kernel
theorem dX8_seal_31 : decode cX8_seal 31 = .ok (.ireturn, 1) := by decide +kernel
theorem dX8_seal_32 : decode cX8_seal 32 = .ok (.aload_n 0, 1) := by decide +kernel
theorem dX8_seal_33 : decode cX8_seal 33 = .ok (.iconst 0, 1) := by decide +kernel
theorem dX8_seal_34 : decode cX8_seal 34 = .ok (.putfield 143, 3) := by decide +kernel
theorem dX8_seal_37 : decode cX8_seal 37 = .ok (.aload_n 0, 1) := by decide +kernel
theorem dX8_seal_38 : decode cX8_seal 38 = .ok (.aload_n 0, 1) := by decide +kernel
theorem dX8_seal_39 : decode cX8_seal 39 = .ok (.getfield 203, 3) := by decide +kernel
theorem dX8_seal_42 : decode cX8_seal 42 = .ok (.invokevirtual 166, 3) := by decide +kernel
theorem dX8_seal_45 : decode cX8_seal 45 = .ok (.iconst 0, 1) := by decide +kernel
theorem dX8_seal_46 : decode cX8_seal 46 = .ok (.istore_n 3, 1) := by decide +kernel
theorem dX8_seal_47 : decode cX8_seal 47 = .ok (.iload_n 3, 1) := by decide +kernel
theorem dX8_seal_48 : decode cX8_seal 48 = .ok (.bipush 32, 2) := by decide +kernel
theorem dX8_seal_50 : decode cX8_seal 50 = .ok (.if_icmp .ge 32, 3) := by decide +kernel
theorem dX8_seal_53 : decode cX8_seal 53 = .ok (.aload_n 0, 1) := by decide +kernel
theorem dX8_seal_54 : decode cX8_seal 54 = .ok (.iload_n 1, 1) := by decide +kernel
theorem dX8_seal_55 : decode cX8_seal 55 = .ok (.ifCond .ge 7, 3) := by decide +kernel
theorem dX8_seal_58 : decode cX8_seal 58 = .ok (.iconst 0, 1) := by decide +kernel
theorem dX8_seal_59 : decode cX8_seal 59 = .ok (.goto 14, 3) := by decide +kernel
theorem dX8_seal_62 : decode cX8_seal 62 = .ok (.aload_n 0, 1) := by decide +kernel
theorem dX8_seal_63 : decode cX8_seal 63 = .ok (.getfield 51, 3) := by decide +kernel
theorem dX8_seal_66 : decode cX8_seal 66 = .ok (.bipush 32, 2) := by decide +kernel
theorem dX8_seal_68 : decode cX8_seal 68 = .ok (.iload_n 1, 1) := by decide +kernel
theorem dX8_seal_69 : decode cX8_seal 69 = .ok (.imul, 1) := by decide +kernel
theorem dX8_seal_70 : decode cX8_seal 70 = .ok (.iload_n 3, 1) := by decide +kernel
theorem dX8_seal_71 : decode cX8_seal 71 = .ok (.iadd, 1) := by decide +kernel
theorem dX8_seal_72 : decode cX8_seal 72 = .ok (.baload, 1) := by decide +kernel
theorem dX8_seal_73 : decode cX8_seal 73 = .ok (.invokevirtual 160, 3) := by decide +kernel
theorem dX8_seal_76 : decode cX8_seal 76 = .ok (.iinc 3 1, 3) := by decide +kernel
theorem dX8_seal_79 : decode cX8_seal 79 = .ok (.goto (-32), 3) := by decide +kernel
theorem dX8_seal_82 : decode cX8_seal 82 = .ok (.iconst 0, 1) := by decide +kernel
theorem dX8_seal_83 : decode cX8_seal 83 = .ok (.istore_n 3, 1) := by decide +kernel
theorem dX8_seal_84 : decode cX8_seal 84 = .ok (.iload_n 3, 1) := by decide +kernel
theorem dX8_seal_85 : decode cX8_seal 85 = .ok (.bipush 32, 2) := by decide +kernel
theorem dX8_seal_87 : decode cX8_seal 87 = .ok (.if_icmp .ge 19, 3) := by decide +kernel
theorem dX8_seal_90 : decode cX8_seal 90 = .ok (.aload_n 0, 1) := by decide +kernel
theorem dX8_seal_91 : decode cX8_seal 91 = .ok (.aload_n 0, 1) := by decide +kernel
theorem dX8_seal_92 : decode cX8_seal 92 = .ok (.getfield 38, 3) := by decide +kernel
theorem dX8_seal_95 : decode cX8_seal 95 = .ok (.iload_n 3, 1) := by decide +kernel
theorem dX8_seal_96 : decode cX8_seal 96 = .ok (.baload, 1) := by decide +kernel
theorem dX8_seal_97 : decode cX8_seal 97 = .ok (.invokevirtual 160, 3) := by decide +kernel
theorem dX8_seal_100 : decode cX8_seal 100 = .ok (.iinc 3 1, 3) := by decide +kernel
theorem dX8_seal_103 : decode cX8_seal 103 = .ok (.goto (-19), 3) := by decide +kernel
theorem dX8_seal_106 : decode cX8_seal 106 = .ok (.aload_n 0, 1) := by decide +kernel
theorem dX8_seal_107 : decode cX8_seal 107 = .ok (.iload_n 2, 1) := by decide +kernel
theorem dX8_seal_108 : decode cX8_seal 108 = .ok (.invokevirtual 160, 3) := by decide +kernel
theorem dX8_seal_111 : decode cX8_seal 111 = .ok (.iconst 0, 1) := by decide +kernel
theorem dX8_seal_112 : decode cX8_seal 112 = .ok (.istore_n 3, 1) := by decide +kernel
theorem dX8_seal_113 : decode cX8_seal 113 = .ok (.iload_n 3, 1) := by decide +kernel
theorem dX8_seal_114 : decode cX8_seal 114 = .ok (.iload_n 2, 1) := by decide +kernel
theorem dX8_seal_115 : decode cX8_seal 115 = .ok (.if_icmp .ge 19, 3) := by decide +kernel
theorem dX8_seal_118 : decode cX8_seal 118 = .ok (.aload_n 0, 1) := by decide +kernel
theorem dX8_seal_119 : decode cX8_seal 119 = .ok (.aload_n 0, 1) := by decide +kernel
theorem dX8_seal_120 : decode cX8_seal 120 = .ok (.getfield 9, 3) := by decide +kernel
theorem dX8_seal_123 : decode cX8_seal 123 = .ok (.iload_n 3, 1) := by decide +kernel
theorem dX8_seal_124 : decode cX8_seal 124 = .ok (.baload, 1) := by decide +kernel
theorem dX8_seal_125 : decode cX8_seal 125 = .ok (.invokevirtual 160, 3) := by decide +kernel
theorem dX8_seal_128 : decode cX8_seal 128 = .ok (.iinc 3 1, 3) := by decide +kernel
theorem dX8_seal_131 : decode cX8_seal 131 = .ok (.goto (-18), 3) := by decide +kernel
theorem dX8_seal_134 : decode cX8_seal 134 = .ok (.aload_n 0, 1) := by decide +kernel
theorem dX8_seal_135 : decode cX8_seal 135 = .ok (.aload_n 0, 1) := by decide +kernel
theorem dX8_seal_136 : decode cX8_seal 136 = .ok (.getfield 13, 3) := by decide +kernel
theorem dX8_seal_139 : decode cX8_seal 139 = .ok (.bipush 36, 2) := by decide +kernel
theorem dX8_seal_141 : decode cX8_seal 141 = .ok (.bipush 33, 2) := by decide +kernel
theorem dX8_seal_143 : decode cX8_seal 143 = .ok (.iload_n 2, 1) := by decide +kernel
theorem dX8_seal_144 : decode cX8_seal 144 = .ok (.iadd, 1) := by decide +kernel
theorem dX8_seal_145 : decode cX8_seal 145 = .ok (.aload_n 0, 1) := by decide +kernel
theorem dX8_seal_146 : decode cX8_seal 146 = .ok (.getfield 203, 3) := by decide +kernel
theorem dX8_seal_149 : decode cX8_seal 149 = .ok (.invokevirtual 206, 3) := by decide +kernel
theorem dX8_seal_152 : decode cX8_seal 152 = .ok (.aload_n 0, 1) := by decide +kernel
theorem dX8_seal_153 : decode cX8_seal 153 = .ok (.aload_n 0, 1) := by decide +kernel
theorem dX8_seal_154 : decode cX8_seal 154 = .ok (.getfield 13, 3) := by decide +kernel
theorem dX8_seal_157 : decode cX8_seal 157 = .ok (.aload_n 0, 1) := by decide +kernel
theorem dX8_seal_158 : decode cX8_seal 158 = .ok (.getfield 143, 3) := by decide +kernel
theorem dX8_seal_161 : decode cX8_seal 161 = .ok (.aload_n 0, 1) := by decide +kernel
theorem dX8_seal_162 : decode cX8_seal 162 = .ok (.getfield 203, 3) := by decide +kernel
theorem dX8_seal_165 : decode cX8_seal 165 = .ok (.aload_n 0, 1) := by decide +kernel
theorem dX8_seal_166 : decode cX8_seal 166 = .ok (.getfield 13, 3) := by decide +kernel
theorem dX8_seal_169 : decode cX8_seal 169 = .ok (.aload_n 0, 1) := by decide +kernel
theorem dX8_seal_170 : decode cX8_seal 170 = .ok (.getfield 143, 3) := by decide +kernel
theorem dX8_seal_173 : decode cX8_seal 173 = .ok (.invokevirtual 210, 3) := by decide +kernel
theorem dX8_seal_176 : decode cX8_seal 176 = .ok (.aload_n 0, 1) := by decide +kernel
theorem dX8_seal_177 : decode cX8_seal 177 = .ok (.dup, 1) := by decide +kernel
theorem dX8_seal_178 : decode cX8_seal 178 = .ok (.getfield 143, 3) := by decide +kernel
theorem dX8_seal_181 : decode cX8_seal 181 = .ok (.bipush 32, 2) := by decide +kernel
theorem dX8_seal_183 : decode cX8_seal 183 = .ok (.iadd, 1) := by decide +kernel
theorem dX8_seal_184 : decode cX8_seal 184 = .ok (.putfield 143, 3) := by decide +kernel
theorem dX8_seal_187 : decode cX8_seal 187 = .ok (.aload_n 0, 1) := by decide +kernel
theorem dX8_seal_188 : decode cX8_seal 188 = .ok (.dup, 1) := by decide +kernel
theorem dX8_seal_189 : decode cX8_seal 189 = .ok (.getfield 203, 3) := by decide +kernel
theorem dX8_seal_192 : decode cX8_seal 192 = .ok (.iconst 1, 1) := by decide +kernel
theorem dX8_seal_193 : decode cX8_seal 193 = .ok (.iadd, 1) := by decide +kernel
theorem dX8_seal_194 : decode cX8_seal 194 = .ok (.putfield 203, 3) := by decide +kernel
theorem dX8_seal_197 : decode cX8_seal 197 = .ok (.aload_n 0, 1) := by decide +kernel
theorem dX8_seal_198 : decode cX8_seal 198 = .ok (.getfield 143, 3) := by decide +kernel
theorem dX8_seal_201 : decode cX8_seal 201 = .ok (.ireturn, 1) := by decide +kernel
theorem dX8_load_0 : decode cX8_load 0 = .ok (.aload_n 0, 1) := by decide +kernel
theorem dX8_load_1 : decode cX8_load 1 = .ok (.getfield 137, 3) := by decide +kernel
theorem dX8_load_4 : decode cX8_load 4 = .ok (.istore_n 1, 1) := by decide +kernel
theorem dX8_load_5 : decode cX8_load 5 = .ok (.aload_n 0, 1) := by decide +kernel
theorem dX8_load_6 : decode cX8_load 6 = .ok (.iconst 0, 1) := by decide +kernel
theorem dX8_load_7 : decode cX8_load 7 = .ok (.putfield 137, 3) := by decide +kernel
theorem dX8_load_10 : decode cX8_load 10 = .ok (.iload_n 1, 1) := by decide +kernel
theorem dX8_load_11 : decode cX8_load 11 = .ok (.bipush 101, 2) := by decide +kernel
theorem dX8_load_13 : decode cX8_load 13 = .ok (.if_icmp .lt 10, 3) := by decide +kernel
theorem dX8_load_16 : decode cX8_load 16 = .ok (.iload_n 1, 1) := by decide +kernel
theorem dX8_load_17 : decode cX8_load 17 = .ok (.sipush 229, 3) := by decide +kernel
theorem dX8_load_20 : decode cX8_load 20 = .ok (.if_icmp .le 6, 3) := by decide +kernel
theorem dX8_load_23 : decode cX8_load 23 = .ok (.bipush (-6), 2) := by decide +kernel
theorem dX8_load_25 : decode cX8_load 25 = .ok (.ireturn, 1) := by decide +kernel
theorem dX8_load_26 : decode cX8_load 26 = .ok (.aload_n 0, 1) := by decide +kernel
theorem dX8_load_27 : decode cX8_load 27 = .ok (.getfield 9, 3) := by decide +kernel
theorem dX8_load_30 : decode cX8_load 30 = .ok (.iconst 0, 1) := by decide +kernel
theorem dX8_load_31 : decode cX8_load 31 = .ok (.baload, 1) := by decide +kernel
theorem dX8_load_32 : decode cX8_load 32 = .ok (.sipush 255, 3) := by decide +kernel
theorem dX8_load_35 : decode cX8_load 35 = .ok (.iand, 1) := by decide +kernel
theorem dX8_load_36 : decode cX8_load 36 = .ok (.bipush 24, 2) := by decide +kernel
theorem dX8_load_38 : decode cX8_load 38 = .ok (.ishl, 1) := by decide +kernel
theorem dX8_load_39 : decode cX8_load 39 = .ok (.aload_n 0, 1) := by decide +kernel
theorem dX8_load_40 : decode cX8_load 40 = .ok (.getfield 9, 3) := by decide +kernel
theorem dX8_load_43 : decode cX8_load 43 = .ok (.iconst 1, 1) := by decide +kernel
theorem dX8_load_44 : decode cX8_load 44 = .ok (.baload, 1) := by decide +kernel
theorem dX8_load_45 : decode cX8_load 45 = .ok (.sipush 255, 3) := by decide +kernel
theorem dX8_load_48 : decode cX8_load 48 = .ok (.iand, 1) := by decide +kernel
theorem dX8_load_49 : decode cX8_load 49 = .ok (.bipush 16, 2) := by decide +kernel
theorem dX8_load_51 : decode cX8_load 51 = .ok (.ishl, 1) := by decide +kernel
theorem dX8_load_52 : decode cX8_load 52 = .ok (.ior, 1) := by decide +kernel
theorem dX8_load_53 : decode cX8_load 53 = .ok (.aload_n 0, 1) := by decide +kernel
theorem dX8_load_54 : decode cX8_load 54 = .ok (.getfield 9, 3) := by decide +kernel
theorem dX8_load_57 : decode cX8_load 57 = .ok (.iconst 2, 1) := by decide +kernel
theorem dX8_load_58 : decode cX8_load 58 = .ok (.baload, 1) := by decide +kernel
theorem dX8_load_59 : decode cX8_load 59 = .ok (.sipush 255, 3) := by decide +kernel
theorem dX8_load_62 : decode cX8_load 62 = .ok (.iand, 1) := by decide +kernel
theorem dX8_load_63 : decode cX8_load 63 = .ok (.bipush 8, 2) := by decide +kernel
theorem dX8_load_65 : decode cX8_load 65 = .ok (.ishl, 1) := by decide +kernel
theorem dX8_load_66 : decode cX8_load 66 = .ok (.ior, 1) := by decide +kernel
theorem dX8_load_67 : decode cX8_load 67 = .ok (.aload_n 0, 1) := by decide +kernel
theorem dX8_load_68 : decode cX8_load 68 = .ok (.getfield 9, 3) := by decide +kernel
theorem dX8_load_71 : decode cX8_load 71 = .ok (.iconst 3, 1) := by decide +kernel
theorem dX8_load_72 : decode cX8_load 72 = .ok (.baload, 1) := by decide +kernel
theorem dX8_load_73 : decode cX8_load 73 = .ok (.sipush 255, 3) := by decide +kernel
theorem dX8_load_76 : decode cX8_load 76 = .ok (.iand, 1) := by decide +kernel
theorem dX8_load_77 : decode cX8_load 77 = .ok (.ior, 1) := by decide +kernel
theorem dX8_load_78 : decode cX8_load 78 = .ok (.istore_n 2, 1) := by decide +kernel
theorem dX8_load_79 : decode cX8_load 79 = .ok (.aload_n 0, 1) := by decide +kernel
theorem dX8_load_80 : decode cX8_load 80 = .ok (.aload_n 0, 1) := by decide +kernel
theorem dX8_load_81 : decode cX8_load 81 = .ok (.getfield 9, 3) := by decide +kernel
theorem dX8_load_84 : decode cX8_load 84 = .ok (.iload_n 1, 1) := by decide +kernel
theorem dX8_load_85 : decode cX8_load 85 = .ok (.bipush 32, 2) := by decide +kernel
theorem dX8_load_87 : decode cX8_load 87 = .ok (.isub, 1) := by decide +kernel
theorem dX8_load_88 : decode cX8_load 88 = .ok (.iload_n 2, 1) := by decide +kernel
theorem dX8_load_89 : decode cX8_load 89 = .ok (.aload_n 0, 1) := by decide +kernel
theorem dX8_load_90 : decode cX8_load 90 = .ok (.getfield 97, 3) := by decide +kernel
theorem dX8_load_93 : decode cX8_load 93 = .ok (.iconst 0, 1) := by decide +kernel
theorem dX8_load_94 : decode cX8_load 94 = .ok (.invokevirtual 210, 3) := by decide +kernel
theorem dX8_load_97 : decode cX8_load 97 = .ok (.aload_n 0, 1) := by decide +kernel
theorem dX8_load_98 : decode cX8_load 98 = .ok (.getfield 97, 3) := by decide +kernel
theorem dX8_load_101 : decode cX8_load 101 = .ok (.iconst 0, 1) := by decide +kernel
theorem dX8_load_102 : decode cX8_load 102 = .ok (.aload_n 0, 1) := by decide +kernel
theorem dX8_load_103 : decode cX8_load 103 = .ok (.getfield 9, 3) := by decide +kernel
theorem dX8_load_106 : decode cX8_load 106 = .ok (.iload_n 1, 1) := by decide +kernel
theorem dX8_load_107 : decode cX8_load 107 = .ok (.bipush 32, 2) := by decide +kernel
theorem dX8_load_109 : decode cX8_load 109 = .ok (.isub, 1) := by decide +kernel
theorem dX8_load_110 : decode cX8_load 110 = .ok (.invokestatic 189, 3) := by decide +kernel
theorem dX8_load_113 : decode cX8_load 113 = .ok (.ifCond .ne 6, 3) := by decide +kernel
theorem dX8_load_116 : decode cX8_load 116 = .ok (.bipush (-6), 2) := by decide +kernel
theorem dX8_load_118 : decode cX8_load 118 = .ok (.ireturn, 1) := by decide +kernel
theorem dX8_load_119 : decode cX8_load 119 = .ok (.aload_n 0, 1) := by decide +kernel
theorem dX8_load_120 : decode cX8_load 120 = .ok (.aload_n 0, 1) := by decide +kernel
theorem dX8_load_121 : decode cX8_load 121 = .ok (.getfield 9, 3) := by decide +kernel
theorem dX8_load_124 : decode cX8_load 124 = .ok (.bipush 36, 2) := by decide +kernel
theorem dX8_load_126 : decode cX8_load 126 = .ok (.iload_n 1, 1) := by decide +kernel
theorem dX8_load_127 : decode cX8_load 127 = .ok (.bipush 68, 2) := by decide +kernel
theorem dX8_load_129 : decode cX8_load 129 = .ok (.isub, 1) := by decide +kernel
theorem dX8_load_130 : decode cX8_load 130 = .ok (.iload_n 2, 1) := by decide +kernel
theorem dX8_load_131 : decode cX8_load 131 = .ok (.invokevirtual 206, 3) := by decide +kernel
theorem dX8_load_134 : decode cX8_load 134 = .ok (.aload_n 0, 1) := by decide +kernel
theorem dX8_load_135 : decode cX8_load 135 = .ok (.getfield 9, 3) := by decide +kernel
theorem dX8_load_138 : decode cX8_load 138 = .ok (.bipush 68, 2) := by decide +kernel
theorem dX8_load_140 : decode cX8_load 140 = .ok (.baload, 1) := by decide +kernel
theorem dX8_load_141 : decode cX8_load 141 = .ok (.sipush 255, 3) := by decide +kernel
theorem dX8_load_144 : decode cX8_load 144 = .ok (.iand, 1) := by decide +kernel
theorem dX8_load_145 : decode cX8_load 145 = .ok (.iload_n 1, 1) := by decide +kernel
theorem dX8_load_146 : decode cX8_load 146 = .ok (.bipush 101, 2) := by decide +kernel
theorem dX8_load_148 : decode cX8_load 148 = .ok (.isub, 1) := by decide +kernel
theorem dX8_load_149 : decode cX8_load 149 = .ok (.if_icmp .eq 6, 3) := by decide +kernel
theorem dX8_load_152 : decode cX8_load 152 = .ok (.bipush (-6), 2) := by decide +kernel
theorem dX8_load_154 : decode cX8_load 154 = .ok (.ireturn, 1) := by decide +kernel
theorem dX8_load_155 : decode cX8_load 155 = .ok (.iconst 0, 1) := by decide +kernel
theorem dX8_load_156 : decode cX8_load 156 = .ok (.istore_n 3, 1) := by decide +kernel
theorem dX8_load_157 : decode cX8_load 157 = .ok (.iload_n 3, 1) := by decide +kernel
theorem dX8_load_158 : decode cX8_load 158 = .ok (.iconst 4, 1) := by decide +kernel
theorem dX8_load_159 : decode cX8_load 159 = .ok (.if_icmp .ge 18, 3) := by decide +kernel
theorem dX8_load_162 : decode cX8_load 162 = .ok (.aload_n 0, 1) := by decide +kernel
theorem dX8_load_163 : decode cX8_load 163 = .ok (.getfield 73, 3) := by decide +kernel
theorem dX8_load_166 : decode cX8_load 166 = .ok (.iload_n 3, 1) := by decide +kernel
theorem dX8_load_167 : decode cX8_load 167 = .ok (.baload, 1) := by decide +kernel
theorem dX8_load_168 : decode cX8_load 168 = .ok (.ifCond .eq 9, 3) := by decide +kernel
theorem dX8_load_171 : decode cX8_load 171 = .ok (.iinc 3 1, 3) := by decide +kernel
theorem dX8_load_174 : decode cX8_load 174 = .ok (.goto (-17), 3) := by decide +kernel
theorem dX8_load_177 : decode cX8_load 177 = .ok (.iload_n 3, 1) := by decide +kernel
theorem dX8_load_178 : decode cX8_load 178 = .ok (.iconst 4, 1) := by decide +kernel
theorem dX8_load_179 : decode cX8_load 179 = .ok (.if_icmp .ne 6, 3) := by decide +kernel
theorem dX8_load_182 : decode cX8_load 182 = .ok (.bipush (-3), 2) := by decide +kernel
theorem dX8_load_184 : decode cX8_load 184 = .ok (.ireturn, 1) := by decide +kernel
theorem dX8_load_185 : decode cX8_load 185 = .ok (.aload_n 0, 1) := by decide +kernel
theorem dX8_load_186 : decode cX8_load 186 = .ok (.getfield 73, 3) := by decide +kernel
theorem dX8_load_189 : decode cX8_load 189 = .ok (.iload_n 3, 1) := by decide +kernel
theorem dX8_load_190 : decode cX8_load 190 = .ok (.iconst 1, 1) := by decide +kernel
theorem dX8_load_191 : decode cX8_load 191 = .ok (.bastore, 1) := by decide +kernel
theorem dX8_load_192 : decode cX8_load 192 = .ok (.iconst 0, 1) := by decide +kernel
theorem dX8_load_193 : decode cX8_load 193 = .ok (.istore 4, 2) := by decide +kernel
theorem dX8_load_195 : decode cX8_load 195 = .ok (.iload 4, 2) := by decide +kernel
theorem dX8_load_197 : decode cX8_load 197 = .ok (.bipush 32, 2) := by decide +kernel
theorem dX8_load_199 : decode cX8_load 199 = .ok (.if_icmp .ge 52, 3) := by decide +kernel
theorem dX8_load_202 : decode cX8_load 202 = .ok (.aload_n 0, 1) := by decide +kernel
theorem dX8_load_203 : decode cX8_load 203 = .ok (.getfield 79, 3) := by decide +kernel
theorem dX8_load_206 : decode cX8_load 206 = .ok (.bipush 32, 2) := by decide +kernel
theorem dX8_load_208 : decode cX8_load 208 = .ok (.iload_n 3, 1) := by decide +kernel
theorem dX8_load_209 : decode cX8_load 209 = .ok (.imul, 1) := by decide +kernel
theorem dX8_load_210 : decode cX8_load 210 = .ok (.iload 4, 2) := by decide +kernel
theorem dX8_load_212 : decode cX8_load 212 = .ok (.iadd, 1) := by decide +kernel
theorem dX8_load_213 : decode cX8_load 213 = .ok (.aload_n 0, 1) := by decide +kernel
theorem dX8_load_214 : decode cX8_load 214 = .ok (.getfield 9, 3) := by decide +kernel
theorem dX8_load_217 : decode cX8_load 217 = .ok (.iconst 4, 1) := by decide +kernel
theorem dX8_load_218 : decode cX8_load 218 = .ok (.iload 4, 2) := by decide +kernel
theorem dX8_load_220 : decode cX8_load 220 = .ok (.iadd, 1) := by decide +kernel
theorem dX8_load_221 : decode cX8_load 221 = .ok (.baload, 1) := by decide +kernel
theorem dX8_load_222 : decode cX8_load 222 = .ok (.bastore, 1) := by decide +kernel
theorem dX8_load_223 : decode cX8_load 223 = .ok (.aload_n 0, 1) := by decide +kernel
theorem dX8_load_224 : decode cX8_load 224 = .ok (.getfield 76, 3) := by decide +kernel
theorem dX8_load_227 : decode cX8_load 227 = .ok (.bipush 32, 2) := by decide +kernel
theorem dX8_load_229 : decode cX8_load 229 = .ok (.iload_n 3, 1) := by decide +kernel
theorem dX8_load_230 : decode cX8_load 230 = .ok (.imul, 1) := by decide +kernel
theorem dX8_load_231 : decode cX8_load 231 = .ok (.iload 4, 2) := by decide +kernel
theorem dX8_load_233 : decode cX8_load 233 = .ok (.iadd, 1) := by decide +kernel
theorem dX8_load_234 : decode cX8_load 234 = .ok (.aload_n 0, 1) := by decide +kernel
theorem dX8_load_235 : decode cX8_load 235 = .ok (.getfield 9, 3) := by decide +kernel
theorem dX8_load_238 : decode cX8_load 238 = .ok (.bipush 36, 2) := by decide +kernel
theorem dX8_load_240 : decode cX8_load 240 = .ok (.iload 4, 2) := by decide +kernel
theorem dX8_load_242 : decode cX8_load 242 = .ok (.iadd, 1) := by decide +kernel
theorem dX8_load_243 : decode cX8_load 243 = .ok (.baload, 1) := by decide +kernel
theorem dX8_load_244 : decode cX8_load 244 = .ok (.bastore, 1) := by decide +kernel
theorem dX8_load_245 : decode cX8_load 245 = .ok (.iinc 4 1, 3) := by decide +kernel
theorem dX8_load_248 : decode cX8_load 248 = .ok (.goto (-53), 3) := by decide +kernel
theorem dX8_load_251 : decode cX8_load 251 = .ok (.aload_n 0, 1) := by decide +kernel
theorem dX8_load_252 : decode cX8_load 252 = .ok (.getfield 85, 3) := by decide +kernel
theorem dX8_load_255 : decode cX8_load 255 = .ok (.iload_n 3, 1) := by decide +kernel
theorem dX8_load_256 : decode cX8_load 256 = .ok (.aload_n 0, 1) := by decide +kernel
theorem dX8_load_257 : decode cX8_load 257 = .ok (.getfield 9, 3) := by decide +kernel
theorem dX8_load_260 : decode cX8_load 260 = .ok (.bipush 68, 2) := by decide +kernel
theorem dX8_load_262 : decode cX8_load 262 = .ok (.baload, 1) := by decide +kernel
theorem dX8_load_263 : decode cX8_load 263 = .ok (.sipush 255, 3) := by decide +kernel
theorem dX8_load_266 : decode cX8_load 266 = .ok (.iand, 1) := by decide +kernel
theorem dX8_load_267 : decode cX8_load 267 = .ok (.iastore, 1) := by decide +kernel
theorem dX8_load_268 : decode cX8_load 268 = .ok (.iconst 0, 1) := by decide +kernel
theorem dX8_load_269 : decode cX8_load 269 = .ok (.istore 4, 2) := by decide +kernel
theorem dX8_load_271 : decode cX8_load 271 = .ok (.iload 4, 2) := by decide +kernel
theorem dX8_load_273 : decode cX8_load 273 = .ok (.aload_n 0, 1) := by decide +kernel
theorem dX8_load_274 : decode cX8_load 274 = .ok (.getfield 85, 3) := by decide +kernel
theorem dX8_load_277 : decode cX8_load 277 = .ok (.iload_n 3, 1) := by decide +kernel
theorem dX8_load_278 : decode cX8_load 278 = .ok (.iaload, 1) := by decide +kernel
theorem dX8_load_279 : decode cX8_load 279 = .ok (.if_icmp .ge 32, 3) := by decide +kernel
theorem dX8_load_282 : decode cX8_load 282 = .ok (.aload_n 0, 1) := by decide +kernel
theorem dX8_load_283 : decode cX8_load 283 = .ok (.getfield 82, 3) := by decide +kernel
theorem dX8_load_286 : decode cX8_load 286 = .ok (.sipush 128, 3) := by decide +kernel
theorem dX8_load_289 : decode cX8_load 289 = .ok (.iload_n 3, 1) := by decide +kernel
theorem dX8_load_290 : decode cX8_load 290 = .ok (.imul, 1) := by decide +kernel
theorem dX8_load_291 : decode cX8_load 291 = .ok (.iload 4, 2) := by decide +kernel
theorem dX8_load_293 : decode cX8_load 293 = .ok (.iadd, 1) := by decide +kernel
theorem dX8_load_294 : decode cX8_load 294 = .ok (.aload_n 0, 1) := by decide +kernel
theorem dX8_load_295 : decode cX8_load 295 = .ok (.getfield 9, 3) := by decide +kernel
theorem dX8_load_298 : decode cX8_load 298 = .ok (.bipush 69, 2) := by decide +kernel
theorem dX8_load_300 : decode cX8_load 300 = .ok (.iload 4, 2) := by decide +kernel
theorem dX8_load_302 : decode cX8_load 302 = .ok (.iadd, 1) := by decide +kernel
theorem dX8_load_303 : decode cX8_load 303 = .ok (.baload, 1) := by decide +kernel
theorem dX8_load_304 : decode cX8_load 304 = .ok (.bastore, 1) := by decide +kernel
theorem dX8_load_305 : decode cX8_load 305 = .ok (.iinc 4 1, 3) := by decide +kernel
theorem dX8_load_308 : decode cX8_load 308 = .ok (.goto (-37), 3) := by decide +kernel
theorem dX8_load_311 : decode cX8_load 311 = .ok (.iload_n 3, 1) := by decide +kernel
theorem dX8_load_312 : decode cX8_load 312 = .ok (.ireturn, 1) := by decide +kernel
theorem dX8_isObject_0 : decode cX8_isObject 0 = .ok (.iload_n 1, 1) := by decide +kernel
theorem dX8_isObject_1 : decode cX8_isObject 1 = .ok (.ifCond .lt 21, 3) := by decide +kernel
theorem dX8_isObject_4 : decode cX8_isObject 4 = .ok (.iload_n 1, 1) := by decide +kernel
theorem dX8_isObject_5 : decode cX8_isObject 5 = .ok (.iconst 4, 1) := by decide +kernel
theorem dX8_isObject_6 : decode cX8_isObject 6 = .ok (.if_icmp .ge 16, 3) := by decide +kernel
theorem dX8_isObject_9 : decode cX8_isObject 9 = .ok (.aload_n 0, 1) := by decide +kernel
theorem dX8_isObject_10 : decode cX8_isObject 10 = .ok (.getfield 73, 3) := by decide +kernel
theorem dX8_isObject_13 : decode cX8_isObject 13 = .ok (.iload_n 1, 1) := by decide +kernel
theorem dX8_isObject_14 : decode cX8_isObject 14 = .ok (.baload, 1) := by decide +kernel
theorem dX8_isObject_15 : decode cX8_isObject 15 = .ok (.ifCond .eq 7, 3) := by decide +kernel
theorem dX8_isObject_18 : decode cX8_isObject 18 = .ok (.iconst 1, 1) := by decide +kernel
theorem dX8_isObject_19 : decode cX8_isObject 19 = .ok (.goto 4, 3) := by decide +kernel
theorem dX8_isObject_22 : decode cX8_isObject 22 = .ok (.iconst 0, 1) := by decide +kernel
theorem dX8_isObject_23 : decode cX8_isObject 23 = .ok (.ireturn, 1) := by decide +kernel
theorem dX8_show_0 : decode cX8_show 0 = .ok (.aload_n 0, 1) := by decide +kernel
theorem dX8_show_1 : decode cX8_show 1 = .ok (.aload_n 0, 1) := by decide +kernel
theorem dX8_show_2 : decode cX8_show 2 = .ok (.getfield 85, 3) := by decide +kernel
theorem dX8_show_5 : decode cX8_show 5 = .ok (.iload_n 1, 1) := by decide +kernel
theorem dX8_show_6 : decode cX8_show 6 = .ok (.iaload, 1) := by decide +kernel
theorem dX8_show_7 : decode cX8_show 7 = .ok (.putfield 143, 3) := by decide +kernel
theorem dX8_show_10 : decode cX8_show 10 = .ok (.iconst 0, 1) := by decide +kernel
theorem dX8_show_11 : decode cX8_show 11 = .ok (.istore_n 2, 1) := by decide +kernel
theorem dX8_show_12 : decode cX8_show 12 = .ok (.iload_n 2, 1) := by decide +kernel
theorem dX8_show_13 : decode cX8_show 13 = .ok (.aload_n 0, 1) := by decide +kernel
theorem dX8_show_14 : decode cX8_show 14 = .ok (.getfield 143, 3) := by decide +kernel
theorem dX8_show_17 : decode cX8_show 17 = .ok (.if_icmp .ge 27, 3) := by decide +kernel
theorem dX8_show_20 : decode cX8_show 20 = .ok (.aload_n 0, 1) := by decide +kernel
theorem dX8_show_21 : decode cX8_show 21 = .ok (.getfield 13, 3) := by decide +kernel
theorem dX8_show_24 : decode cX8_show 24 = .ok (.iload_n 2, 1) := by decide +kernel
theorem dX8_show_25 : decode cX8_show 25 = .ok (.aload_n 0, 1) := by decide +kernel
theorem dX8_show_26 : decode cX8_show 26 = .ok (.getfield 82, 3) := by decide +kernel
theorem dX8_show_29 : decode cX8_show 29 = .ok (.sipush 128, 3) := by decide +kernel
theorem dX8_show_32 : decode cX8_show 32 = .ok (.iload_n 1, 1) := by decide +kernel
theorem dX8_show_33 : decode cX8_show 33 = .ok (.imul, 1) := by decide +kernel
theorem dX8_show_34 : decode cX8_show 34 = .ok (.iload_n 2, 1) := by decide +kernel
theorem dX8_show_35 : decode cX8_show 35 = .ok (.iadd, 1) := by decide +kernel
theorem dX8_show_36 : decode cX8_show 36 = .ok (.baload, 1) := by decide +kernel
theorem dX8_show_37 : decode cX8_show 37 = .ok (.bastore, 1) := by decide +kernel
theorem dX8_show_38 : decode cX8_show 38 = .ok (.iinc 2 1, 3) := by decide +kernel
theorem dX8_show_41 : decode cX8_show 41 = .ok (.goto (-29), 3) := by decide +kernel
theorem dX8_show_44 : decode cX8_show 44 = .ok (.aload_n 0, 1) := by decide +kernel
theorem dX8_show_45 : decode cX8_show 45 = .ok (.getfield 143, 3) := by decide +kernel
theorem dX8_show_48 : decode cX8_show 48 = .ok (.ireturn, 1) := by decide +kernel
theorem dX8_unseal_0 : decode cX8_unseal 0 = .ok (.aload_n 0, 1) := by decide +kernel
theorem dX8_unseal_1 : decode cX8_unseal 1 = .ok (.iload_n 1, 1) := by decide +kernel
theorem dX8_unseal_2 : decode cX8_unseal 2 = .ok (.invokevirtual 214, 3) := by decide +kernel
theorem dX8_unseal_5 : decode cX8_unseal 5 = .ok (.ifCond .ne 6, 3) := by decide +kernel
theorem dX8_unseal_8 : decode cX8_unseal 8 = .ok (.bipush (-2), 2) := by decide +kernel
theorem dX8_unseal_10 : decode cX8_unseal 10 = .ok (.ireturn, 1) := by decide +kernel
theorem dX8_unseal_11 : decode cX8_unseal 11 = .ok (.aload_n 0, 1) := by decide +kernel
theorem dX8_unseal_12 : decode cX8_unseal 12 = .ok (.iload_n 1, 1) := by decide +kernel
theorem dX8_unseal_13 : decode cX8_unseal 13 = .ok (.iload_n 2, 1) := by decide +kernel
theorem dX8_unseal_14 : decode cX8_unseal 14 = .ok (.iconst 1, 1) := by decide +kernel
theorem dX8_unseal_15 : decode cX8_unseal 15 = .ok (.invokevirtual 217, 3) := by decide +kernel
theorem dX8_unseal_18 : decode cX8_unseal 18 = .ok (.istore_n 3, 1) := by decide +kernel
theorem dX8_unseal_19 : decode cX8_unseal 19 = .ok (.iload_n 3, 1) := by decide +kernel
theorem dX8_unseal_20 : decode cX8_unseal 20 = .ok (.ifCond .ge 7, 3) := by decide +kernel
theorem dX8_unseal_23 : decode cX8_unseal 23 = .ok (.iload_n 3, 1) := by decide +kernel
theorem dX8_unseal_24 : decode cX8_unseal 24 = .ok (.goto 8, 3) := by decide +kernel
theorem dX8_unseal_27 : decode cX8_unseal 27 = .ok (.aload_n 0, 1) := by decide +kernel
theorem dX8_unseal_28 : decode cX8_unseal 28 = .ok (.iload_n 1, 1) := by decide +kernel
theorem dX8_unseal_29 : decode cX8_unseal 29 = .ok (.invokevirtual 221, 3) := by decide +kernel
theorem dX8_unseal_32 : decode cX8_unseal 32 = .ok (.ireturn, 1) := by decide +kernel
theorem dX8_flush_0 : decode cX8_flush 0 = .ok (.aload_n 0, 1) := by decide +kernel
theorem dX8_flush_1 : decode cX8_flush 1 = .ok (.iload_n 1, 1) := by decide +kernel
theorem dX8_flush_2 : decode cX8_flush 2 = .ok (.invokevirtual 214, 3) := by decide +kernel
theorem dX8_flush_5 : decode cX8_flush 5 = .ok (.ifCond .ne 6, 3) := by decide +kernel
theorem dX8_flush_8 : decode cX8_flush 8 = .ok (.bipush (-2), 2) := by decide +kernel
theorem dX8_flush_10 : decode cX8_flush 10 = .ok (.ireturn, 1) := by decide +kernel
theorem dX8_flush_11 : decode cX8_flush 11 = .ok (.aload_n 0, 1) := by decide +kernel
theorem dX8_flush_12 : decode cX8_flush 12 = .ok (.getfield 73, 3) := by decide +kernel
theorem dX8_flush_15 : decode cX8_flush 15 = .ok (.iload_n 1, 1) := by decide +kernel
theorem dX8_flush_16 : decode cX8_flush 16 = .ok (.iconst 0, 1) := by decide +kernel
theorem dX8_flush_17 : decode cX8_flush 17 = .ok (.bastore, 1) := by decide +kernel
theorem dX8_flush_18 : decode cX8_flush 18 = .ok (.iconst 0, 1) := by decide +kernel
theorem dX8_flush_19 : decode cX8_flush 19 = .ok (.ireturn, 1) := by decide +kernel
theorem dX8_thing_0 : decode cX8_thing 0 = .ok (.iload_n 1, 1) := by decide +kernel
theorem dX8_thing_1 : decode cX8_thing 1 = .ok (.ifCond .lt 42, 3) := by decide +kernel
theorem dX8_thing_4 : decode cX8_thing 4 = .ok (.iload_n 1, 1) := by decide +kernel
theorem dX8_thing_5 : decode cX8_thing 5 = .ok (.bipush 8, 2) := by decide +kernel
theorem dX8_thing_7 : decode cX8_thing 7 = .ok (.if_icmp .ge 36, 3) := by decide +kernel
theorem dX8_thing_10 : decode cX8_thing 10 = .ok (.aload_n 0, 1) := by decide +kernel
theorem dX8_thing_11 : decode cX8_thing 11 = .ok (.getfield 73, 3) := by decide +kernel
theorem dX8_thing_14 : decode cX8_thing 14 = .ok (.iconst 4, 1) := by decide +kernel
theorem dX8_thing_15 : decode cX8_thing 15 = .ok (.iload_n 1, 1) := by decide +kernel
theorem dX8_thing_16 : decode cX8_thing 16 = .ok (.iadd, 1) := by decide +kernel
theorem dX8_thing_17 : decode cX8_thing 17 = .ok (.baload, 1) := by decide +kernel
theorem dX8_thing_18 : decode cX8_thing 18 = .ok (.ifCond .eq 25, 3) := by decide +kernel
theorem dX8_thing_21 : decode cX8_thing 21 = .ok (.iload_n 2, 1) := by decide +kernel
theorem dX8_thing_22 : decode cX8_thing 22 = .ok (.ifCond .lt 15, 3) := by decide +kernel
theorem dX8_thing_25 : decode cX8_thing 25 = .ok (.aload_n 0, 1) := by decide +kernel
theorem dX8_thing_26 : decode cX8_thing 26 = .ok (.getfield 88, 3) := by decide +kernel
theorem dX8_thing_29 : decode cX8_thing 29 = .ok (.iconst 4, 1) := by decide +kernel
theorem dX8_thing_30 : decode cX8_thing 30 = .ok (.iload_n 1, 1) := by decide +kernel
theorem dX8_thing_31 : decode cX8_thing 31 = .ok (.iadd, 1) := by decide +kernel
theorem dX8_thing_32 : decode cX8_thing 32 = .ok (.iaload, 1) := by decide +kernel
theorem dX8_thing_33 : decode cX8_thing 33 = .ok (.iload_n 2, 1) := by decide +kernel
theorem dX8_thing_34 : decode cX8_thing 34 = .ok (.if_icmp .ne 9, 3) := by decide +kernel
theorem dX8_thing_37 : decode cX8_thing 37 = .ok (.iconst 4, 1) := by decide +kernel
theorem dX8_thing_38 : decode cX8_thing 38 = .ok (.iload_n 1, 1) := by decide +kernel
theorem dX8_thing_39 : decode cX8_thing 39 = .ok (.iadd, 1) := by decide +kernel
theorem dX8_thing_40 : decode cX8_thing 40 = .ok (.goto 4, 3) := by decide +kernel
theorem dX8_thing_43 : decode cX8_thing 43 = .ok (.iconst (-1), 1) := by decide +kernel
theorem dX8_thing_44 : decode cX8_thing 44 = .ok (.ireturn, 1) := by decide +kernel
theorem dX8_define_0 : decode cX8_define 0 = .ok (.aload_n 0, 1) := by decide +kernel
theorem dX8_define_1 : decode cX8_define 1 = .ok (.getfield 137, 3) := by decide +kernel
theorem dX8_define_4 : decode cX8_define 4 = .ok (.istore 5, 2) := by decide +kernel
theorem dX8_define_6 : decode cX8_define 6 = .ok (.aload_n 0, 1) := by decide +kernel
theorem dX8_define_7 : decode cX8_define 7 = .ok (.iconst 0, 1) := by decide +kernel
theorem dX8_define_8 : decode cX8_define 8 = .ok (.putfield 137, 3) := by decide +kernel
theorem dX8_define_11 : decode cX8_define 11 = .ok (.iload_n 1, 1) := by decide +kernel
theorem dX8_define_12 : decode cX8_define 12 = .ok (.ifCond .lt 48, 3) := by decide +kernel
theorem dX8_define_15 : decode cX8_define 15 = .ok (.iload_n 1, 1) := by decide +kernel
theorem dX8_define_16 : decode cX8_define 16 = .ok (.bipush 7, 2) := by decide +kernel
theorem dX8_define_18 : decode cX8_define 18 = .ok (.if_icmp .gt 42, 3) := by decide +kernel
theorem dX8_define_21 : decode cX8_define 21 = .ok (.iload_n 2, 1) := by decide +kernel
theorem dX8_define_22 : decode cX8_define 22 = .ok (.ifCond .lt 38, 3) := by decide +kernel
theorem dX8_define_25 : decode cX8_define 25 = .ok (.iload_n 2, 1) := by decide +kernel
theorem dX8_define_26 : decode cX8_define 26 = .ok (.iconst 2, 1) := by decide +kernel
theorem dX8_define_27 : decode cX8_define 27 = .ok (.if_icmp .gt 33, 3) := by decide +kernel
theorem dX8_define_30 : decode cX8_define 30 = .ok (.iload 4, 2) := by decide +kernel
theorem dX8_define_32 : decode cX8_define 32 = .ok (.iconst (-1), 1) := by decide +kernel
theorem dX8_define_33 : decode cX8_define 33 = .ok (.if_icmp .eq 12, 3) := by decide +kernel
theorem dX8_define_36 : decode cX8_define 36 = .ok (.aload_n 0, 1) := by decide +kernel
theorem dX8_define_37 : decode cX8_define 37 = .ok (.iload 4, 2) := by decide +kernel
theorem dX8_define_39 : decode cX8_define 39 = .ok (.invokevirtual 182, 3) := by decide +kernel
theorem dX8_define_42 : decode cX8_define 42 = .ok (.ifCond .eq 18, 3) := by decide +kernel
theorem dX8_define_45 : decode cX8_define 45 = .ok (.iload_n 2, 1) := by decide +kernel
theorem dX8_define_46 : decode cX8_define 46 = .ok (.ifCond .ne 16, 3) := by decide +kernel
theorem dX8_define_49 : decode cX8_define 49 = .ok (.iload_n 3, 1) := by decide +kernel
theorem dX8_define_50 : decode cX8_define 50 = .ok (.iconst 1, 1) := by decide +kernel
theorem dX8_define_51 : decode cX8_define 51 = .ok (.if_icmp .lt 9, 3) := by decide +kernel
theorem dX8_define_54 : decode cX8_define 54 = .ok (.iload_n 3, 1) := by decide +kernel
theorem dX8_define_55 : decode cX8_define 55 = .ok (.bipush 64, 2) := by decide +kernel
theorem dX8_define_57 : decode cX8_define 57 = .ok (.if_icmp .le 5, 3) := by decide +kernel
theorem dX8_define_60 : decode cX8_define 60 = .ok (.iconst (-1), 1) := by decide +kernel
theorem dX8_define_61 : decode cX8_define 61 = .ok (.ireturn, 1) := by decide +kernel
theorem dX8_define_62 : decode cX8_define 62 = .ok (.aload_n 0, 1) := by decide +kernel
theorem dX8_define_63 : decode cX8_define 63 = .ok (.getfield 73, 3) := by decide +kernel
theorem dX8_define_66 : decode cX8_define 66 = .ok (.iconst 4, 1) := by decide +kernel
theorem dX8_define_67 : decode cX8_define 67 = .ok (.iload_n 1, 1) := by decide +kernel
theorem dX8_define_68 : decode cX8_define 68 = .ok (.iadd, 1) := by decide +kernel
theorem dX8_define_69 : decode cX8_define 69 = .ok (.baload, 1) := by decide +kernel
theorem dX8_define_70 : decode cX8_define 70 = .ok (.ifCond .eq 6, 3) := by decide +kernel
theorem dX8_define_73 : decode cX8_define 73 = .ok (.bipush (-2), 2) := by decide +kernel
theorem dX8_define_75 : decode cX8_define 75 = .ok (.ireturn, 1) := by decide +kernel
theorem dX8_define_76 : decode cX8_define 76 = .ok (.aload_n 0, 1) := by decide +kernel
theorem dX8_define_77 : decode cX8_define 77 = .ok (.invokevirtual 225, 3) := by decide +kernel
theorem dX8_define_80 : decode cX8_define 80 = .ok (.istore 6, 2) := by decide +kernel
theorem dX8_define_82 : decode cX8_define 82 = .ok (.iload 6, 2) := by decide +kernel
theorem dX8_define_84 : decode cX8_define 84 = .ok (.ifCond .ge 6, 3) := by decide +kernel
theorem dX8_define_87 : decode cX8_define 87 = .ok (.iload 6, 2) := by decide +kernel
theorem dX8_define_89 : decode cX8_define 89 = .ok (.ireturn, 1) := by decide +kernel
theorem dX8_define_90 : decode cX8_define 90 = .ok (.iconst 4, 1) := by decide +kernel
theorem dX8_define_91 : decode cX8_define 91 = .ok (.iload_n 1, 1) := by decide +kernel
theorem dX8_define_92 : decode cX8_define 92 = .ok (.iadd, 1) := by decide +kernel
theorem dX8_define_93 : decode cX8_define 93 = .ok (.istore 7, 2) := by decide +kernel
theorem dX8_define_95 : decode cX8_define 95 = .ok (.aload_n 0, 1) := by decide +kernel
theorem dX8_define_96 : decode cX8_define 96 = .ok (.iconst 0, 1) := by decide +kernel
theorem dX8_define_97 : decode cX8_define 97 = .ok (.putfield 100, 3) := by decide +kernel
theorem dX8_define_100 : decode cX8_define 100 = .ok (.aload_n 0, 1) := by decide +kernel
theorem dX8_define_101 : decode cX8_define 101 = .ok (.aload_n 0, 1) := by decide +kernel
theorem dX8_define_102 : decode cX8_define 102 = .ok (.getfield 9, 3) := by decide +kernel
theorem dX8_define_105 : decode cX8_define 105 = .ok (.iconst 0, 1) := by decide +kernel
theorem dX8_define_106 : decode cX8_define 106 = .ok (.iload 5, 2) := by decide +kernel
theorem dX8_define_108 : decode cX8_define 108 = .ok (.invokevirtual 134, 3) := by decide +kernel
theorem dX8_define_111 : decode cX8_define 111 = .ok (.aload_n 0, 1) := by decide +kernel
theorem dX8_define_112 : decode cX8_define 112 = .ok (.aload_n 0, 1) := by decide +kernel
theorem dX8_define_113 : decode cX8_define 113 = .ok (.getfield 76, 3) := by decide +kernel
theorem dX8_define_116 : decode cX8_define 116 = .ok (.bipush 32, 2) := by decide +kernel
theorem dX8_define_118 : decode cX8_define 118 = .ok (.iload 7, 2) := by decide +kernel
theorem dX8_define_120 : decode cX8_define 120 = .ok (.imul, 1) := by decide +kernel
theorem dX8_define_121 : decode cX8_define 121 = .ok (.invokevirtual 111, 3) := by decide +kernel
theorem dX8_define_124 : decode cX8_define 124 = .ok (.iconst 0, 1) := by decide +kernel
theorem dX8_define_125 : decode cX8_define 125 = .ok (.istore 8, 2) := by decide +kernel
theorem dX8_define_127 : decode cX8_define 127 = .ok (.iload 8, 2) := by decide +kernel
theorem dX8_define_129 : decode cX8_define 129 = .ok (.bipush 32, 2) := by decide +kernel
theorem dX8_define_131 : decode cX8_define 131 = .ok (.if_icmp .ge 44, 3) := by decide +kernel
theorem dX8_define_134 : decode cX8_define 134 = .ok (.aload_n 0, 1) := by decide +kernel
theorem dX8_define_135 : decode cX8_define 135 = .ok (.getfield 79, 3) := by decide +kernel
theorem dX8_define_138 : decode cX8_define 138 = .ok (.bipush 32, 2) := by decide +kernel
theorem dX8_define_140 : decode cX8_define 140 = .ok (.iload 7, 2) := by decide +kernel
theorem dX8_define_142 : decode cX8_define 142 = .ok (.imul, 1) := by decide +kernel
theorem dX8_define_143 : decode cX8_define 143 = .ok (.iload 8, 2) := by decide +kernel
theorem dX8_define_145 : decode cX8_define 145 = .ok (.iadd, 1) := by decide +kernel
theorem dX8_define_146 : decode cX8_define 146 = .ok (.iload 4, 2) := by decide +kernel
theorem dX8_define_148 : decode cX8_define 148 = .ok (.ifCond .ge 7, 3) := by decide +kernel
theorem dX8_define_151 : decode cX8_define 151 = .ok (.iconst 0, 1) := by decide +kernel
theorem dX8_define_152 : decode cX8_define 152 = .ok (.goto 16, 3) := by decide +kernel
theorem dX8_define_155 : decode cX8_define 155 = .ok (.aload_n 0, 1) := by decide +kernel
theorem dX8_define_156 : decode cX8_define 156 = .ok (.getfield 51, 3) := by decide +kernel
theorem dX8_define_159 : decode cX8_define 159 = .ok (.bipush 32, 2) := by decide +kernel
theorem dX8_define_161 : decode cX8_define 161 = .ok (.iload 4, 2) := by decide +kernel
theorem dX8_define_163 : decode cX8_define 163 = .ok (.imul, 1) := by decide +kernel
theorem dX8_define_164 : decode cX8_define 164 = .ok (.iload 8, 2) := by decide +kernel
theorem dX8_define_166 : decode cX8_define 166 = .ok (.iadd, 1) := by decide +kernel
theorem dX8_define_167 : decode cX8_define 167 = .ok (.baload, 1) := by decide +kernel
theorem dX8_define_168 : decode cX8_define 168 = .ok (.bastore, 1) := by decide +kernel
theorem dX8_define_169 : decode cX8_define 169 = .ok (.iinc 8 1, 3) := by decide +kernel
theorem dX8_define_172 : decode cX8_define 172 = .ok (.goto (-45), 3) := by decide +kernel
theorem dX8_define_175 : decode cX8_define 175 = .ok (.aload_n 0, 1) := by decide +kernel
theorem dX8_define_176 : decode cX8_define 176 = .ok (.getfield 73, 3) := by decide +kernel
theorem dX8_define_179 : decode cX8_define 179 = .ok (.iload 7, 2) := by decide +kernel
theorem dX8_define_181 : decode cX8_define 181 = .ok (.iconst 1, 1) := by decide +kernel
theorem dX8_define_182 : decode cX8_define 182 = .ok (.bastore, 1) := by decide +kernel
theorem dX8_define_183 : decode cX8_define 183 = .ok (.aload_n 0, 1) := by decide +kernel
theorem dX8_define_184 : decode cX8_define 184 = .ok (.getfield 88, 3) := by decide +kernel
theorem dX8_define_187 : decode cX8_define 187 = .ok (.iload 7, 2) := by decide +kernel
theorem dX8_define_189 : decode cX8_define 189 = .ok (.iload_n 2, 1) := by decide +kernel
theorem dX8_define_190 : decode cX8_define 190 = .ok (.iastore, 1) := by decide +kernel
theorem dX8_define_191 : decode cX8_define 191 = .ok (.aload_n 0, 1) := by decide +kernel
theorem dX8_define_192 : decode cX8_define 192 = .ok (.getfield 85, 3) := by decide +kernel
theorem dX8_define_195 : decode cX8_define 195 = .ok (.iload 7, 2) := by decide +kernel
theorem dX8_define_197 : decode cX8_define 197 = .ok (.iload_n 2, 1) := by decide +kernel
theorem dX8_define_198 : decode cX8_define 198 = .ok (.ifCond .ne 7, 3) := by decide +kernel
theorem dX8_define_201 : decode cX8_define 201 = .ok (.iload_n 3, 1) := by decide +kernel
theorem dX8_define_202 : decode cX8_define 202 = .ok (.goto 15, 3) := by decide +kernel
theorem dX8_define_205 : decode cX8_define 205 = .ok (.iload_n 2, 1) := by decide +kernel
theorem dX8_define_206 : decode cX8_define 206 = .ok (.iconst 1, 1) := by decide +kernel
theorem dX8_define_207 : decode cX8_define 207 = .ok (.if_icmp .ne 8, 3) := by decide +kernel
theorem dX8_define_210 : decode cX8_define 210 = .ok (.bipush 8, 2) := by decide +kernel
theorem dX8_define_212 : decode cX8_define 212 = .ok (.goto 5, 3) := by decide +kernel
theorem dX8_define_215 : decode cX8_define 215 = .ok (.bipush 32, 2) := by decide +kernel
theorem dX8_define_217 : decode cX8_define 217 = .ok (.iastore, 1) := by decide +kernel
theorem dX8_define_218 : decode cX8_define 218 = .ok (.aload_n 0, 1) := by decide +kernel
theorem dX8_define_219 : decode cX8_define 219 = .ok (.getfield 91, 3) := by decide +kernel
theorem dX8_define_222 : decode cX8_define 222 = .ok (.iload 7, 2) := by decide +kernel
theorem dX8_define_224 : decode cX8_define 224 = .ok (.iconst 0, 1) := by decide +kernel
theorem dX8_define_225 : decode cX8_define 225 = .ok (.bastore, 1) := by decide +kernel
theorem dX8_define_226 : decode cX8_define 226 = .ok (.aload_n 0, 1) := by decide +kernel
theorem dX8_define_227 : decode cX8_define 227 = .ok (.getfield 94, 3) := by decide +kernel
theorem dX8_define_230 : decode cX8_define 230 = .ok (.iload 7, 2) := by decide +kernel
theorem dX8_define_232 : decode cX8_define 232 = .ok (.iconst 0, 1) := by decide +kernel
theorem dX8_define_233 : decode cX8_define 233 = .ok (.bastore, 1) := by decide +kernel
theorem dX8_define_234 : decode cX8_define 234 = .ok (.iconst 0, 1) := by decide +kernel
theorem dX8_define_235 : decode cX8_define 235 = .ok (.istore 8, 2) := by decide +kernel
theorem dX8_define_237 : decode cX8_define 237 = .ok (.iload 8, 2) := by decide +kernel
theorem dX8_define_239 : decode cX8_define 239 = .ok (.sipush 128, 3) := by decide +kernel
theorem dX8_define_242 : decode cX8_define 242 = .ok (.if_icmp .ge 24, 3) := by decide +kernel
theorem dX8_define_245 : decode cX8_define 245 = .ok (.aload_n 0, 1) := by decide +kernel
theorem dX8_define_246 : decode cX8_define 246 = .ok (.getfield 82, 3) := by decide +kernel
theorem dX8_define_249 : decode cX8_define 249 = .ok (.sipush 128, 3) := by decide +kernel
theorem dX8_define_252 : decode cX8_define 252 = .ok (.iload 7, 2) := by decide +kernel
theorem dX8_define_254 : decode cX8_define 254 = .ok (.imul, 1) := by decide +kernel
theorem dX8_define_255 : decode cX8_define 255 = .ok (.iload 8, 2) := by decide +kernel
theorem dX8_define_257 : decode cX8_define 257 = .ok (.iadd, 1) := by decide +kernel
theorem dX8_define_258 : decode cX8_define 258 = .ok (.iconst 0, 1) := by decide +kernel
theorem dX8_define_259 : decode cX8_define 259 = .ok (.bastore, 1) := by decide +kernel
theorem dX8_define_260 : decode cX8_define 260 = .ok (.iinc 8 1, 3) := by decide +kernel
theorem dX8_define_263 : decode cX8_define 263 = .ok (.goto (-26), 3) := by decide +kernel
theorem dX8_define_266 : decode cX8_define 266 = .ok (.iconst 0, 1) := by decide +kernel
theorem dX8_define_267 : decode cX8_define 267 = .ok (.ireturn, 1) := by decide +kernel
theorem dX8_undefine_0 : decode cX8_undefine 0 = .ok (.aload_n 0, 1) := by decide +kernel
theorem dX8_undefine_1 : decode cX8_undefine 1 = .ok (.iload_n 1, 1) := by decide +kernel
theorem dX8_undefine_2 : decode cX8_undefine 2 = .ok (.iconst (-1), 1) := by decide +kernel
theorem dX8_undefine_3 : decode cX8_undefine 3 = .ok (.invokevirtual 228, 3) := by decide +kernel
theorem dX8_undefine_6 : decode cX8_undefine 6 = .ok (.istore_n 2, 1) := by decide +kernel
theorem dX8_undefine_7 : decode cX8_undefine 7 = .ok (.iload_n 2, 1) := by decide +kernel
theorem dX8_undefine_8 : decode cX8_undefine 8 = .ok (.ifCond .ge 6, 3) := by decide +kernel
theorem dX8_undefine_11 : decode cX8_undefine 11 = .ok (.bipush (-2), 2) := by decide +kernel
theorem dX8_undefine_13 : decode cX8_undefine 13 = .ok (.ireturn, 1) := by decide +kernel
theorem dX8_undefine_14 : decode cX8_undefine 14 = .ok (.aload_n 0, 1) := by decide +kernel
theorem dX8_undefine_15 : decode cX8_undefine 15 = .ok (.invokevirtual 225, 3) := by decide +kernel
theorem dX8_undefine_18 : decode cX8_undefine 18 = .ok (.istore_n 3, 1) := by decide +kernel
theorem dX8_undefine_19 : decode cX8_undefine 19 = .ok (.iload_n 3, 1) := by decide +kernel
theorem dX8_undefine_20 : decode cX8_undefine 20 = .ok (.ifCond .ne 10, 3) := by decide +kernel
theorem dX8_undefine_23 : decode cX8_undefine 23 = .ok (.aload_n 0, 1) := by decide +kernel
theorem dX8_undefine_24 : decode cX8_undefine 24 = .ok (.getfield 73, 3) := by decide +kernel
theorem dX8_undefine_27 : decode cX8_undefine 27 = .ok (.iload_n 2, 1) := by decide +kernel
theorem dX8_undefine_28 : decode cX8_undefine 28 = .ok (.iconst 0, 1) := by decide +kernel
theorem dX8_undefine_29 : decode cX8_undefine 29 = .ok (.bastore, 1) := by decide +kernel
theorem dX8_undefine_30 : decode cX8_undefine 30 = .ok (.iload_n 3, 1) := by decide +kernel
theorem dX8_undefine_31 : decode cX8_undefine 31 = .ok (.ireturn, 1) := by decide +kernel
end
section
theorem dX8_write_0 : decode cX8_write 0 = .ok (.aload_n 0, 1) := by decide +kernel
theorem dX8_write_1 : decode cX8_write 1 = .ok (.getfield 137, 3) := by decide +kernel
theorem dX8_write_4 : decode cX8_write 4 = .ok (.istore 4, 2) := by decide +kernel
theorem dX8_write_6 : decode cX8_write 6 = .ok (.aload_n 0, 1) := by decide +kernel
theorem dX8_write_7 : decode cX8_write 7 = .ok (.iconst 0, 1) := by decide +kernel
theorem dX8_write_8 : decode cX8_write 8 = .ok (.putfield 137, 3) := by decide +kernel
theorem dX8_write_11 : decode cX8_write 11 = .ok (.aload_n 0, 1) := by decide +kernel
theorem dX8_write_12 : decode cX8_write 12 = .ok (.iload_n 1, 1) := by decide +kernel
theorem dX8_write_13 : decode cX8_write 13 = .ok (.iconst 0, 1) := by decide +kernel
theorem dX8_write_14 : decode cX8_write 14 = .ok (.invokevirtual 228, 3) := by decide +kernel
theorem dX8_write_17 : decode cX8_write 17 = .ok (.istore 5, 2) := by decide +kernel
theorem dX8_write_19 : decode cX8_write 19 = .ok (.iload 5, 2) := by decide +kernel
theorem dX8_write_21 : decode cX8_write 21 = .ok (.ifCond .ge 6, 3) := by decide +kernel
theorem dX8_write_24 : decode cX8_write 24 = .ok (.bipush (-2), 2) := by decide +kernel
theorem dX8_write_26 : decode cX8_write 26 = .ok (.ireturn, 1) := by decide +kernel
theorem dX8_write_27 : decode cX8_write 27 = .ok (.iload_n 2, 1) := by decide +kernel
theorem dX8_write_28 : decode cX8_write 28 = .ok (.ifCond .lt 17, 3) := by decide +kernel
theorem dX8_write_31 : decode cX8_write 31 = .ok (.iload_n 2, 1) := by decide +kernel
theorem dX8_write_32 : decode cX8_write 32 = .ok (.aload_n 0, 1) := by decide +kernel
theorem dX8_write_33 : decode cX8_write 33 = .ok (.getfield 85, 3) := by decide +kernel
theorem dX8_write_36 : decode cX8_write 36 = .ok (.iload 5, 2) := by decide +kernel
theorem dX8_write_38 : decode cX8_write 38 = .ok (.iaload, 1) := by decide +kernel
theorem dX8_write_39 : decode cX8_write 39 = .ok (.iload 4, 2) := by decide +kernel
theorem dX8_write_41 : decode cX8_write 41 = .ok (.isub, 1) := by decide +kernel
theorem dX8_write_42 : decode cX8_write 42 = .ok (.if_icmp .le 5, 3) := by decide +kernel
theorem dX8_write_45 : decode cX8_write 45 = .ok (.iconst (-1), 1) := by decide +kernel
theorem dX8_write_46 : decode cX8_write 46 = .ok (.ireturn, 1) := by decide +kernel
theorem dX8_write_47 : decode cX8_write 47 = .ok (.aload_n 0, 1) := by decide +kernel
theorem dX8_write_48 : decode cX8_write 48 = .ok (.getfield 94, 3) := by decide +kernel
theorem dX8_write_51 : decode cX8_write 51 = .ok (.iload 5, 2) := by decide +kernel
theorem dX8_write_53 : decode cX8_write 53 = .ok (.baload, 1) := by decide +kernel
theorem dX8_write_54 : decode cX8_write 54 = .ok (.ifCond .eq 6, 3) := by decide +kernel
theorem dX8_write_57 : decode cX8_write 57 = .ok (.bipush (-3), 2) := by decide +kernel
theorem dX8_write_59 : decode cX8_write 59 = .ok (.ireturn, 1) := by decide +kernel
theorem dX8_write_60 : decode cX8_write 60 = .ok (.aload_n 0, 1) := by decide +kernel
theorem dX8_write_61 : decode cX8_write 61 = .ok (.iload 5, 2) := by decide +kernel
theorem dX8_write_63 : decode cX8_write 63 = .ok (.iload_n 3, 1) := by decide +kernel
theorem dX8_write_64 : decode cX8_write 64 = .ok (.iconst 2, 1) := by decide +kernel
theorem dX8_write_65 : decode cX8_write 65 = .ok (.invokevirtual 217, 3) := by decide +kernel
theorem dX8_write_68 : decode cX8_write 68 = .ok (.istore 6, 2) := by decide +kernel
theorem dX8_write_70 : decode cX8_write 70 = .ok (.iload 6, 2) := by decide +kernel
theorem dX8_write_72 : decode cX8_write 72 = .ok (.ifCond .ge 6, 3) := by decide +kernel
theorem dX8_write_75 : decode cX8_write 75 = .ok (.iload 6, 2) := by decide +kernel
theorem dX8_write_77 : decode cX8_write 77 = .ok (.ireturn, 1) := by decide +kernel
theorem dX8_write_78 : decode cX8_write 78 = .ok (.iconst 0, 1) := by decide +kernel
theorem dX8_write_79 : decode cX8_write 79 = .ok (.istore 7, 2) := by decide +kernel
theorem dX8_write_81 : decode cX8_write 81 = .ok (.iload 7, 2) := by decide +kernel
theorem dX8_write_83 : decode cX8_write 83 = .ok (.iload 4, 2) := by decide +kernel
theorem dX8_write_85 : decode cX8_write 85 = .ok (.if_icmp .ge 32, 3) := by decide +kernel
theorem dX8_write_88 : decode cX8_write 88 = .ok (.aload_n 0, 1) := by decide +kernel
theorem dX8_write_89 : decode cX8_write 89 = .ok (.getfield 82, 3) := by decide +kernel
theorem dX8_write_92 : decode cX8_write 92 = .ok (.sipush 128, 3) := by decide +kernel
theorem dX8_write_95 : decode cX8_write 95 = .ok (.iload 5, 2) := by decide +kernel
theorem dX8_write_97 : decode cX8_write 97 = .ok (.imul, 1) := by decide +kernel
theorem dX8_write_98 : decode cX8_write 98 = .ok (.iload_n 2, 1) := by decide +kernel
theorem dX8_write_99 : decode cX8_write 99 = .ok (.iadd, 1) := by decide +kernel
theorem dX8_write_100 : decode cX8_write 100 = .ok (.iload 7, 2) := by decide +kernel
theorem dX8_write_102 : decode cX8_write 102 = .ok (.iadd, 1) := by decide +kernel
theorem dX8_write_103 : decode cX8_write 103 = .ok (.aload_n 0, 1) := by decide +kernel
theorem dX8_write_104 : decode cX8_write 104 = .ok (.getfield 9, 3) := by decide +kernel
theorem dX8_write_107 : decode cX8_write 107 = .ok (.iload 7, 2) := by decide +kernel
theorem dX8_write_109 : decode cX8_write 109 = .ok (.baload, 1) := by decide +kernel
theorem dX8_write_110 : decode cX8_write 110 = .ok (.bastore, 1) := by decide +kernel
theorem dX8_write_111 : decode cX8_write 111 = .ok (.iinc 7 1, 3) := by decide +kernel
theorem dX8_write_114 : decode cX8_write 114 = .ok (.goto (-33), 3) := by decide +kernel
theorem dX8_write_117 : decode cX8_write 117 = .ok (.aload_n 0, 1) := by decide +kernel
theorem dX8_write_118 : decode cX8_write 118 = .ok (.getfield 91, 3) := by decide +kernel
theorem dX8_write_121 : decode cX8_write 121 = .ok (.iload 5, 2) := by decide +kernel
theorem dX8_write_123 : decode cX8_write 123 = .ok (.iconst 1, 1) := by decide +kernel
theorem dX8_write_124 : decode cX8_write 124 = .ok (.bastore, 1) := by decide +kernel
theorem dX8_write_125 : decode cX8_write 125 = .ok (.iconst 0, 1) := by decide +kernel
theorem dX8_write_126 : decode cX8_write 126 = .ok (.ireturn, 1) := by decide +kernel
theorem dX8_count_0 : decode cX8_count 0 = .ok (.aload_n 0, 1) := by decide +kernel
theorem dX8_count_1 : decode cX8_count 1 = .ok (.iload_n 1, 1) := by decide +kernel
theorem dX8_count_2 : decode cX8_count 2 = .ok (.iconst 1, 1) := by decide +kernel
theorem dX8_count_3 : decode cX8_count 3 = .ok (.invokevirtual 228, 3) := by decide +kernel
theorem dX8_count_6 : decode cX8_count 6 = .ok (.istore_n 3, 1) := by decide +kernel
theorem dX8_count_7 : decode cX8_count 7 = .ok (.iload_n 3, 1) := by decide +kernel
theorem dX8_count_8 : decode cX8_count 8 = .ok (.ifCond .ge 6, 3) := by decide +kernel
theorem dX8_count_11 : decode cX8_count 11 = .ok (.bipush (-2), 2) := by decide +kernel
theorem dX8_count_13 : decode cX8_count 13 = .ok (.ireturn, 1) := by decide +kernel
theorem dX8_count_14 : decode cX8_count 14 = .ok (.aload_n 0, 1) := by decide +kernel
theorem dX8_count_15 : decode cX8_count 15 = .ok (.getfield 94, 3) := by decide +kernel
theorem dX8_count_18 : decode cX8_count 18 = .ok (.iload_n 3, 1) := by decide +kernel
theorem dX8_count_19 : decode cX8_count 19 = .ok (.baload, 1) := by decide +kernel
theorem dX8_count_20 : decode cX8_count 20 = .ok (.ifCond .eq 6, 3) := by decide +kernel
theorem dX8_count_23 : decode cX8_count 23 = .ok (.bipush (-3), 2) := by decide +kernel
theorem dX8_count_25 : decode cX8_count 25 = .ok (.ireturn, 1) := by decide +kernel
theorem dX8_count_26 : decode cX8_count 26 = .ok (.aload_n 0, 1) := by decide +kernel
theorem dX8_count_27 : decode cX8_count 27 = .ok (.iload_n 3, 1) := by decide +kernel
theorem dX8_count_28 : decode cX8_count 28 = .ok (.iload_n 2, 1) := by decide +kernel
theorem dX8_count_29 : decode cX8_count 29 = .ok (.iconst 3, 1) := by decide +kernel
theorem dX8_count_30 : decode cX8_count 30 = .ok (.invokevirtual 217, 3) := by decide +kernel
theorem dX8_count_33 : decode cX8_count 33 = .ok (.istore 4, 2) := by decide +kernel
theorem dX8_count_35 : decode cX8_count 35 = .ok (.iload 4, 2) := by decide +kernel
theorem dX8_count_37 : decode cX8_count 37 = .ok (.ifCond .ge 6, 3) := by decide +kernel
theorem dX8_count_40 : decode cX8_count 40 = .ok (.iload 4, 2) := by decide +kernel
theorem dX8_count_42 : decode cX8_count 42 = .ok (.ireturn, 1) := by decide +kernel
theorem dX8_count_43 : decode cX8_count 43 = .ok (.lconst 0, 1) := by decide +kernel
theorem dX8_count_44 : decode cX8_count 44 = .ok (.lstore 5, 2) := by decide +kernel
theorem dX8_count_46 : decode cX8_count 46 = .ok (.iconst 0, 1) := by decide +kernel
theorem dX8_count_47 : decode cX8_count 47 = .ok (.istore 7, 2) := by decide +kernel
theorem dX8_count_49 : decode cX8_count 49 = .ok (.iload 7, 2) := by decide +kernel
theorem dX8_count_51 : decode cX8_count 51 = .ok (.bipush 8, 2) := by decide +kernel
theorem dX8_count_53 : decode cX8_count 53 = .ok (.if_icmp .ge 35, 3) := by decide +kernel
theorem dX8_count_56 : decode cX8_count 56 = .ok (.lload 5, 2) := by decide +kernel
theorem dX8_count_58 : decode cX8_count 58 = .ok (.bipush 8, 2) := by decide +kernel
theorem dX8_count_60 : decode cX8_count 60 = .ok (.lshl, 1) := by decide +kernel
theorem dX8_count_61 : decode cX8_count 61 = .ok (.aload_n 0, 1) := by decide +kernel
theorem dX8_count_62 : decode cX8_count 62 = .ok (.getfield 82, 3) := by decide +kernel
theorem dX8_count_65 : decode cX8_count 65 = .ok (.sipush 128, 3) := by decide +kernel
theorem dX8_count_68 : decode cX8_count 68 = .ok (.iload_n 3, 1) := by decide +kernel
theorem dX8_count_69 : decode cX8_count 69 = .ok (.imul, 1) := by decide +kernel
theorem dX8_count_70 : decode cX8_count 70 = .ok (.iload 7, 2) := by decide +kernel
theorem dX8_count_72 : decode cX8_count 72 = .ok (.iadd, 1) := by decide +kernel
theorem dX8_count_73 : decode cX8_count 73 = .ok (.baload, 1) := by decide +kernel
theorem dX8_count_74 : decode cX8_count 74 = .ok (.sipush 255, 3) := by decide +kernel
theorem dX8_count_77 : decode cX8_count 77 = .ok (.iand, 1) := by decide +kernel
theorem dX8_count_78 : decode cX8_count 78 = .ok (.i2l, 1) := by decide +kernel
theorem dX8_count_79 : decode cX8_count 79 = .ok (.lor, 1) := by decide +kernel
theorem dX8_count_80 : decode cX8_count 80 = .ok (.lstore 5, 2) := by decide +kernel
theorem dX8_count_82 : decode cX8_count 82 = .ok (.iinc 7 1, 3) := by decide +kernel
theorem dX8_count_85 : decode cX8_count 85 = .ok (.goto (-36), 3) := by decide +kernel
theorem dX8_count_88 : decode cX8_count 88 = .ok (.aload_n 0, 1) := by decide +kernel
theorem dX8_count_89 : decode cX8_count 89 = .ok (.getfield 91, 3) := by decide +kernel
theorem dX8_count_92 : decode cX8_count 92 = .ok (.iload_n 3, 1) := by decide +kernel
theorem dX8_count_93 : decode cX8_count 93 = .ok (.baload, 1) := by decide +kernel
theorem dX8_count_94 : decode cX8_count 94 = .ok (.ifCond .eq 8, 3) := by decide +kernel
theorem dX8_count_97 : decode cX8_count 97 = .ok (.lload 5, 2) := by decide +kernel
theorem dX8_count_99 : decode cX8_count 99 = .ok (.goto 7, 3) := by decide +kernel
theorem dX8_count_102 : decode cX8_count 102 = .ok (.aload_n 0, 1) := by decide +kernel
theorem dX8_count_103 : decode cX8_count 103 = .ok (.getfield 232, 3) := by decide +kernel
theorem dX8_count_106 : decode cX8_count 106 = .ok (.lconst 1, 1) := by decide +kernel
theorem dX8_count_107 : decode cX8_count 107 = .ok (.ladd, 1) := by decide +kernel
theorem dX8_count_108 : decode cX8_count 108 = .ok (.lstore 5, 2) := by decide +kernel
theorem dX8_count_110 : decode cX8_count 110 = .ok (.lload 5, 2) := by decide +kernel
theorem dX8_count_112 : decode cX8_count 112 = .ok (.aload_n 0, 1) := by decide +kernel
theorem dX8_count_113 : decode cX8_count 113 = .ok (.getfield 232, 3) := by decide +kernel
theorem dX8_count_116 : decode cX8_count 116 = .ok (.lcmp, 1) := by decide +kernel
theorem dX8_count_117 : decode cX8_count 117 = .ok (.ifCond .le 9, 3) := by decide +kernel
theorem dX8_count_120 : decode cX8_count 120 = .ok (.aload_n 0, 1) := by decide +kernel
theorem dX8_count_121 : decode cX8_count 121 = .ok (.lload 5, 2) := by decide +kernel
theorem dX8_count_123 : decode cX8_count 123 = .ok (.putfield 232, 3) := by decide +kernel
theorem dX8_count_126 : decode cX8_count 126 = .ok (.aload_n 0, 1) := by decide +kernel
theorem dX8_count_127 : decode cX8_count 127 = .ok (.getfield 91, 3) := by decide +kernel
theorem dX8_count_130 : decode cX8_count 130 = .ok (.iload_n 3, 1) := by decide +kernel
theorem dX8_count_131 : decode cX8_count 131 = .ok (.iconst 1, 1) := by decide +kernel
theorem dX8_count_132 : decode cX8_count 132 = .ok (.bastore, 1) := by decide +kernel
theorem dX8_count_133 : decode cX8_count 133 = .ok (.iconst 0, 1) := by decide +kernel
theorem dX8_count_134 : decode cX8_count 134 = .ok (.istore 7, 2) := by decide +kernel
theorem dX8_count_136 : decode cX8_count 136 = .ok (.iload 7, 2) := by decide +kernel
theorem dX8_count_138 : decode cX8_count 138 = .ok (.bipush 8, 2) := by decide +kernel
theorem dX8_count_140 : decode cX8_count 140 = .ok (.if_icmp .ge 35, 3) := by decide +kernel
theorem dX8_count_143 : decode cX8_count 143 = .ok (.aload_n 0, 1) := by decide +kernel
theorem dX8_count_144 : decode cX8_count 144 = .ok (.getfield 82, 3) := by decide +kernel
theorem dX8_count_147 : decode cX8_count 147 = .ok (.sipush 128, 3) := by decide +kernel
theorem dX8_count_150 : decode cX8_count 150 = .ok (.iload_n 3, 1) := by decide +kernel
theorem dX8_count_151 : decode cX8_count 151 = .ok (.imul, 1) := by decide +kernel
theorem dX8_count_152 : decode cX8_count 152 = .ok (.iload 7, 2) := by decide +kernel
theorem dX8_count_154 : decode cX8_count 154 = .ok (.iadd, 1) := by decide +kernel
theorem dX8_count_155 : decode cX8_count 155 = .ok (.lload 5, 2) := by decide +kernel
theorem dX8_count_157 : decode cX8_count 157 = .ok (.bipush 56, 2) := by decide +kernel
theorem dX8_count_159 : decode cX8_count 159 = .ok (.bipush 8, 2) := by decide +kernel
theorem dX8_count_161 : decode cX8_count 161 = .ok (.iload 7, 2) := by decide +kernel
theorem dX8_count_163 : decode cX8_count 163 = .ok (.imul, 1) := by decide +kernel
theorem dX8_count_164 : decode cX8_count 164 = .ok (.isub, 1) := by decide +kernel
theorem dX8_count_165 : decode cX8_count 165 = .ok (.lshr, 1) := by decide +kernel
theorem dX8_count_166 : decode cX8_count 166 = .ok (.l2i, 1) := by decide +kernel
theorem dX8_count_167 : decode cX8_count 167 = .ok (.i2b, 1) := by decide +kernel
theorem dX8_count_168 : decode cX8_count 168 = .ok (.bastore, 1) := by decide +kernel
theorem dX8_count_169 : decode cX8_count 169 = .ok (.iinc 7 1, 3) := by decide +kernel
theorem dX8_count_172 : decode cX8_count 172 = .ok (.goto (-36), 3) := by decide +kernel
theorem dX8_count_175 : decode cX8_count 175 = .ok (.lload 5, 2) := by decide +kernel
theorem dX8_count_177 : decode cX8_count 177 = .ok (.ldc2_w 238, 3) := by decide +kernel
theorem dX8_count_180 : decode cX8_count 180 = .ok (.land, 1) := by decide +kernel
theorem dX8_count_181 : decode cX8_count 181 = .ok (.l2i, 1) := by decide +kernel
theorem dX8_count_182 : decode cX8_count 182 = .ok (.ireturn, 1) := by decide +kernel
theorem dX8_chain_0 : decode cX8_chain 0 = .ok (.aload_n 0, 1) := by decide +kernel
theorem dX8_chain_1 : decode cX8_chain 1 = .ok (.getfield 137, 3) := by decide +kernel
theorem dX8_chain_4 : decode cX8_chain 4 = .ok (.istore_n 3, 1) := by decide +kernel
theorem dX8_chain_5 : decode cX8_chain 5 = .ok (.aload_n 0, 1) := by decide +kernel
theorem dX8_chain_6 : decode cX8_chain 6 = .ok (.iconst 0, 1) := by decide +kernel
theorem dX8_chain_7 : decode cX8_chain 7 = .ok (.putfield 137, 3) := by decide +kernel
theorem dX8_chain_10 : decode cX8_chain 10 = .ok (.aload_n 0, 1) := by decide +kernel
theorem dX8_chain_11 : decode cX8_chain 11 = .ok (.iload_n 1, 1) := by decide +kernel
theorem dX8_chain_12 : decode cX8_chain 12 = .ok (.iconst 2, 1) := by decide +kernel
theorem dX8_chain_13 : decode cX8_chain 13 = .ok (.invokevirtual 228, 3) := by decide +kernel
theorem dX8_chain_16 : decode cX8_chain 16 = .ok (.istore 4, 2) := by decide +kernel
theorem dX8_chain_18 : decode cX8_chain 18 = .ok (.iload 4, 2) := by decide +kernel
theorem dX8_chain_20 : decode cX8_chain 20 = .ok (.ifCond .ge 6, 3) := by decide +kernel
theorem dX8_chain_23 : decode cX8_chain 23 = .ok (.bipush (-2), 2) := by decide +kernel
theorem dX8_chain_25 : decode cX8_chain 25 = .ok (.ireturn, 1) := by decide +kernel
theorem dX8_chain_26 : decode cX8_chain 26 = .ok (.aload_n 0, 1) := by decide +kernel
theorem dX8_chain_27 : decode cX8_chain 27 = .ok (.getfield 94, 3) := by decide +kernel
theorem dX8_chain_30 : decode cX8_chain 30 = .ok (.iload 4, 2) := by decide +kernel
theorem dX8_chain_32 : decode cX8_chain 32 = .ok (.baload, 1) := by decide +kernel
theorem dX8_chain_33 : decode cX8_chain 33 = .ok (.ifCond .eq 6, 3) := by decide +kernel
theorem dX8_chain_36 : decode cX8_chain 36 = .ok (.bipush (-3), 2) := by decide +kernel
theorem dX8_chain_38 : decode cX8_chain 38 = .ok (.ireturn, 1) := by decide +kernel
theorem dX8_chain_39 : decode cX8_chain 39 = .ok (.aload_n 0, 1) := by decide +kernel
theorem dX8_chain_40 : decode cX8_chain 40 = .ok (.iload 4, 2) := by decide +kernel
theorem dX8_chain_42 : decode cX8_chain 42 = .ok (.iload_n 2, 1) := by decide +kernel
theorem dX8_chain_43 : decode cX8_chain 43 = .ok (.iconst 4, 1) := by decide +kernel
theorem dX8_chain_44 : decode cX8_chain 44 = .ok (.invokevirtual 217, 3) := by decide +kernel
theorem dX8_chain_47 : decode cX8_chain 47 = .ok (.istore 5, 2) := by decide +kernel
theorem dX8_chain_49 : decode cX8_chain 49 = .ok (.iload 5, 2) := by decide +kernel
theorem dX8_chain_51 : decode cX8_chain 51 = .ok (.ifCond .ge 6, 3) := by decide +kernel
theorem dX8_chain_54 : decode cX8_chain 54 = .ok (.iload 5, 2) := by decide +kernel
theorem dX8_chain_56 : decode cX8_chain 56 = .ok (.ireturn, 1) := by decide +kernel
theorem dX8_chain_57 : decode cX8_chain 57 = .ok (.aload_n 0, 1) := by decide +kernel
theorem dX8_chain_58 : decode cX8_chain 58 = .ok (.iconst 0, 1) := by decide +kernel
theorem dX8_chain_59 : decode cX8_chain 59 = .ok (.putfield 100, 3) := by decide +kernel
theorem dX8_chain_62 : decode cX8_chain 62 = .ok (.aload_n 0, 1) := by decide +kernel
theorem dX8_chain_63 : decode cX8_chain 63 = .ok (.aload_n 0, 1) := by decide +kernel
theorem dX8_chain_64 : decode cX8_chain 64 = .ok (.getfield 82, 3) := by decide +kernel
theorem dX8_chain_67 : decode cX8_chain 67 = .ok (.sipush 128, 3) := by decide +kernel
theorem dX8_chain_70 : decode cX8_chain 70 = .ok (.iload 4, 2) := by decide +kernel
theorem dX8_chain_72 : decode cX8_chain 72 = .ok (.imul, 1) := by decide +kernel
theorem dX8_chain_73 : decode cX8_chain 73 = .ok (.bipush 32, 2) := by decide +kernel
theorem dX8_chain_75 : decode cX8_chain 75 = .ok (.invokevirtual 134, 3) := by decide +kernel
theorem dX8_chain_78 : decode cX8_chain 78 = .ok (.aload_n 0, 1) := by decide +kernel
theorem dX8_chain_79 : decode cX8_chain 79 = .ok (.aload_n 0, 1) := by decide +kernel
theorem dX8_chain_80 : decode cX8_chain 80 = .ok (.getfield 9, 3) := by decide +kernel
theorem dX8_chain_83 : decode cX8_chain 83 = .ok (.iconst 0, 1) := by decide +kernel
theorem dX8_chain_84 : decode cX8_chain 84 = .ok (.iload_n 3, 1) := by decide +kernel
theorem dX8_chain_85 : decode cX8_chain 85 = .ok (.invokevirtual 134, 3) := by decide +kernel
theorem dX8_chain_88 : decode cX8_chain 88 = .ok (.aload_n 0, 1) := by decide +kernel
theorem dX8_chain_89 : decode cX8_chain 89 = .ok (.aload_n 0, 1) := by decide +kernel
theorem dX8_chain_90 : decode cX8_chain 90 = .ok (.getfield 82, 3) := by decide +kernel
theorem dX8_chain_93 : decode cX8_chain 93 = .ok (.sipush 128, 3) := by decide +kernel
theorem dX8_chain_96 : decode cX8_chain 96 = .ok (.iload 4, 2) := by decide +kernel
theorem dX8_chain_98 : decode cX8_chain 98 = .ok (.imul, 1) := by decide +kernel
theorem dX8_chain_99 : decode cX8_chain 99 = .ok (.invokevirtual 111, 3) := by decide +kernel
theorem dX8_chain_102 : decode cX8_chain 102 = .ok (.aload_n 0, 1) := by decide +kernel
theorem dX8_chain_103 : decode cX8_chain 103 = .ok (.getfield 91, 3) := by decide +kernel
theorem dX8_chain_106 : decode cX8_chain 106 = .ok (.iload 4, 2) := by decide +kernel
theorem dX8_chain_108 : decode cX8_chain 108 = .ok (.iconst 1, 1) := by decide +kernel
theorem dX8_chain_109 : decode cX8_chain 109 = .ok (.bastore, 1) := by decide +kernel
theorem dX8_chain_110 : decode cX8_chain 110 = .ok (.iconst 0, 1) := by decide +kernel
theorem dX8_chain_111 : decode cX8_chain 111 = .ok (.ireturn, 1) := by decide +kernel
theorem dX8_read_0 : decode cX8_read 0 = .ok (.aload_n 0, 1) := by decide +kernel
theorem dX8_read_1 : decode cX8_read 1 = .ok (.iload_n 1, 1) := by decide +kernel
theorem dX8_read_2 : decode cX8_read 2 = .ok (.iconst (-1), 1) := by decide +kernel
theorem dX8_read_3 : decode cX8_read 3 = .ok (.invokevirtual 228, 3) := by decide +kernel
theorem dX8_read_6 : decode cX8_read 6 = .ok (.istore_n 3, 1) := by decide +kernel
theorem dX8_read_7 : decode cX8_read 7 = .ok (.iload_n 3, 1) := by decide +kernel
theorem dX8_read_8 : decode cX8_read 8 = .ok (.ifCond .ge 6, 3) := by decide +kernel
theorem dX8_read_11 : decode cX8_read 11 = .ok (.bipush (-2), 2) := by decide +kernel
theorem dX8_read_13 : decode cX8_read 13 = .ok (.ireturn, 1) := by decide +kernel
theorem dX8_read_14 : decode cX8_read 14 = .ok (.aload_n 0, 1) := by decide +kernel
theorem dX8_read_15 : decode cX8_read 15 = .ok (.getfield 91, 3) := by decide +kernel
theorem dX8_read_18 : decode cX8_read 18 = .ok (.iload_n 3, 1) := by decide +kernel
theorem dX8_read_19 : decode cX8_read 19 = .ok (.baload, 1) := by decide +kernel
theorem dX8_read_20 : decode cX8_read 20 = .ok (.ifCond .ne 6, 3) := by decide +kernel
theorem dX8_read_23 : decode cX8_read 23 = .ok (.bipush (-3), 2) := by decide +kernel
theorem dX8_read_25 : decode cX8_read 25 = .ok (.ireturn, 1) := by decide +kernel
theorem dX8_read_26 : decode cX8_read 26 = .ok (.aload_n 0, 1) := by decide +kernel
theorem dX8_read_27 : decode cX8_read 27 = .ok (.iload_n 3, 1) := by decide +kernel
theorem dX8_read_28 : decode cX8_read 28 = .ok (.iload_n 2, 1) := by decide +kernel
theorem dX8_read_29 : decode cX8_read 29 = .ok (.iconst 5, 1) := by decide +kernel
theorem dX8_read_30 : decode cX8_read 30 = .ok (.invokevirtual 217, 3) := by decide +kernel
theorem dX8_read_33 : decode cX8_read 33 = .ok (.istore 4, 2) := by decide +kernel
theorem dX8_read_35 : decode cX8_read 35 = .ok (.iload 4, 2) := by decide +kernel
theorem dX8_read_37 : decode cX8_read 37 = .ok (.ifCond .ge 8, 3) := by decide +kernel
theorem dX8_read_40 : decode cX8_read 40 = .ok (.iload 4, 2) := by decide +kernel
theorem dX8_read_42 : decode cX8_read 42 = .ok (.goto 8, 3) := by decide +kernel
theorem dX8_read_45 : decode cX8_read 45 = .ok (.aload_n 0, 1) := by decide +kernel
theorem dX8_read_46 : decode cX8_read 46 = .ok (.iload_n 3, 1) := by decide +kernel
theorem dX8_read_47 : decode cX8_read 47 = .ok (.invokevirtual 221, 3) := by decide +kernel
theorem dX8_read_50 : decode cX8_read 50 = .ok (.ireturn, 1) := by decide +kernel
theorem dX8_shut_0 : decode cX8_shut 0 = .ok (.aload_n 0, 1) := by decide +kernel
theorem dX8_shut_1 : decode cX8_shut 1 = .ok (.iload_n 1, 1) := by decide +kernel
theorem dX8_shut_2 : decode cX8_shut 2 = .ok (.iconst (-1), 1) := by decide +kernel
theorem dX8_shut_3 : decode cX8_shut 3 = .ok (.invokevirtual 228, 3) := by decide +kernel
theorem dX8_shut_6 : decode cX8_shut 6 = .ok (.istore_n 3, 1) := by decide +kernel
theorem dX8_shut_7 : decode cX8_shut 7 = .ok (.iload_n 3, 1) := by decide +kernel
theorem dX8_shut_8 : decode cX8_shut 8 = .ok (.ifCond .ge 6, 3) := by decide +kernel
theorem dX8_shut_11 : decode cX8_shut 11 = .ok (.bipush (-2), 2) := by decide +kernel
theorem dX8_shut_13 : decode cX8_shut 13 = .ok (.ireturn, 1) := by decide +kernel
theorem dX8_shut_14 : decode cX8_shut 14 = .ok (.aload_n 0, 1) := by decide +kernel
theorem dX8_shut_15 : decode cX8_shut 15 = .ok (.iload_n 3, 1) := by decide +kernel
theorem dX8_shut_16 : decode cX8_shut 16 = .ok (.iload_n 2, 1) := by decide +kernel
theorem dX8_shut_17 : decode cX8_shut 17 = .ok (.bipush 6, 2) := by decide +kernel
theorem dX8_shut_19 : decode cX8_shut 19 = .ok (.invokevirtual 217, 3) := by decide +kernel
theorem dX8_shut_22 : decode cX8_shut 22 = .ok (.istore 4, 2) := by decide +kernel
theorem dX8_shut_24 : decode cX8_shut 24 = .ok (.iload 4, 2) := by decide +kernel
theorem dX8_shut_26 : decode cX8_shut 26 = .ok (.ifCond .ne 10, 3) := by decide +kernel
theorem dX8_shut_29 : decode cX8_shut 29 = .ok (.aload_n 0, 1) := by decide +kernel
theorem dX8_shut_30 : decode cX8_shut 30 = .ok (.getfield 94, 3) := by decide +kernel
theorem dX8_shut_33 : decode cX8_shut 33 = .ok (.iload_n 3, 1) := by decide +kernel
theorem dX8_shut_34 : decode cX8_shut 34 = .ok (.iconst 1, 1) := by decide +kernel
theorem dX8_shut_35 : decode cX8_shut 35 = .ok (.bastore, 1) := by decide +kernel
theorem dX8_shut_36 : decode cX8_shut 36 = .ok (.iload 4, 2) := by decide +kernel
theorem dX8_shut_38 : decode cX8_shut 38 = .ok (.ireturn, 1) := by decide +kernel
theorem dX8_own_0 : decode cX8_own 0 = .ok (.aload_n 0, 1) := by decide +kernel
theorem dX8_own_1 : decode cX8_own 1 = .ok (.getfield 137, 3) := by decide +kernel
theorem dX8_own_4 : decode cX8_own 4 = .ok (.istore_n 1, 1) := by decide +kernel
theorem dX8_own_5 : decode cX8_own 5 = .ok (.aload_n 0, 1) := by decide +kernel
theorem dX8_own_6 : decode cX8_own 6 = .ok (.iconst 0, 1) := by decide +kernel
theorem dX8_own_7 : decode cX8_own 7 = .ok (.putfield 137, 3) := by decide +kernel
theorem dX8_own_10 : decode cX8_own 10 = .ok (.aload_n 0, 1) := by decide +kernel
theorem dX8_own_11 : decode cX8_own 11 = .ok (.invokevirtual 225, 3) := by decide +kernel
theorem dX8_own_14 : decode cX8_own 14 = .ok (.istore_n 2, 1) := by decide +kernel
theorem dX8_own_15 : decode cX8_own 15 = .ok (.iload_n 2, 1) := by decide +kernel
theorem dX8_own_16 : decode cX8_own 16 = .ok (.ifCond .ge 5, 3) := by decide +kernel
theorem dX8_own_19 : decode cX8_own 19 = .ok (.iload_n 2, 1) := by decide +kernel
theorem dX8_own_20 : decode cX8_own 20 = .ok (.ireturn, 1) := by decide +kernel
theorem dX8_own_21 : decode cX8_own 21 = .ok (.aload_n 0, 1) := by decide +kernel
theorem dX8_own_22 : decode cX8_own 22 = .ok (.iconst 0, 1) := by decide +kernel
theorem dX8_own_23 : decode cX8_own 23 = .ok (.putfield 100, 3) := by decide +kernel
theorem dX8_own_26 : decode cX8_own 26 = .ok (.aload_n 0, 1) := by decide +kernel
theorem dX8_own_27 : decode cX8_own 27 = .ok (.aload_n 0, 1) := by decide +kernel
theorem dX8_own_28 : decode cX8_own 28 = .ok (.getfield 9, 3) := by decide +kernel
theorem dX8_own_31 : decode cX8_own 31 = .ok (.iconst 0, 1) := by decide +kernel
theorem dX8_own_32 : decode cX8_own 32 = .ok (.iload_n 1, 1) := by decide +kernel
theorem dX8_own_33 : decode cX8_own 33 = .ok (.invokevirtual 134, 3) := by decide +kernel
theorem dX8_own_36 : decode cX8_own 36 = .ok (.aload_n 0, 1) := by decide +kernel
theorem dX8_own_37 : decode cX8_own 37 = .ok (.aload_n 0, 1) := by decide +kernel
theorem dX8_own_38 : decode cX8_own 38 = .ok (.getfield 41, 3) := by decide +kernel
theorem dX8_own_41 : decode cX8_own 41 = .ok (.iconst 0, 1) := by decide +kernel
theorem dX8_own_42 : decode cX8_own 42 = .ok (.invokevirtual 111, 3) := by decide +kernel
theorem dX8_own_45 : decode cX8_own 45 = .ok (.iconst 0, 1) := by decide +kernel
theorem dX8_own_46 : decode cX8_own 46 = .ok (.ireturn, 1) := by decide +kernel
theorem dX8_unlock_0 : decode cX8_unlock 0 = .ok (.aload_n 0, 1) := by decide +kernel
theorem dX8_unlock_1 : decode cX8_unlock 1 = .ok (.getfield 38, 3) := by decide +kernel
theorem dX8_unlock_4 : decode cX8_unlock 4 = .ok (.iconst 0, 1) := by decide +kernel
theorem dX8_unlock_5 : decode cX8_unlock 5 = .ok (.aload_n 0, 1) := by decide +kernel
theorem dX8_unlock_6 : decode cX8_unlock 6 = .ok (.getfield 41, 3) := by decide +kernel
theorem dX8_unlock_9 : decode cX8_unlock 9 = .ok (.iconst 0, 1) := by decide +kernel
theorem dX8_unlock_10 : decode cX8_unlock 10 = .ok (.invokestatic 189, 3) := by decide +kernel
theorem dX8_unlock_13 : decode cX8_unlock 13 = .ok (.ifCond .ne 16, 3) := by decide +kernel
theorem dX8_unlock_16 : decode cX8_unlock 16 = .ok (.aload_n 0, 1) := by decide +kernel
theorem dX8_unlock_17 : decode cX8_unlock 17 = .ok (.dup, 1) := by decide +kernel
theorem dX8_unlock_18 : decode cX8_unlock 18 = .ok (.getfield 193, 3) := by decide +kernel
theorem dX8_unlock_21 : decode cX8_unlock 21 = .ok (.iconst 1, 1) := by decide +kernel
theorem dX8_unlock_22 : decode cX8_unlock 22 = .ok (.iadd, 1) := by decide +kernel
theorem dX8_unlock_23 : decode cX8_unlock 23 = .ok (.putfield 193, 3) := by decide +kernel
theorem dX8_unlock_26 : decode cX8_unlock 26 = .ok (.bipush (-4), 2) := by decide +kernel
theorem dX8_unlock_28 : decode cX8_unlock 28 = .ok (.ireturn, 1) := by decide +kernel
theorem dX8_unlock_29 : decode cX8_unlock 29 = .ok (.aload_n 0, 1) := by decide +kernel
theorem dX8_unlock_30 : decode cX8_unlock 30 = .ok (.iconst 0, 1) := by decide +kernel
theorem dX8_unlock_31 : decode cX8_unlock 31 = .ok (.putfield 193, 3) := by decide +kernel
theorem dX8_unlock_34 : decode cX8_unlock 34 = .ok (.iconst 0, 1) := by decide +kernel
theorem dX8_unlock_35 : decode cX8_unlock 35 = .ok (.ireturn, 1) := by decide +kernel
theorem dX8_clear_0 : decode cX8_clear 0 = .ok (.aload_n 0, 1) := by decide +kernel
theorem dX8_clear_1 : decode cX8_clear 1 = .ok (.invokevirtual 225, 3) := by decide +kernel
theorem dX8_clear_4 : decode cX8_clear 4 = .ok (.istore_n 1, 1) := by decide +kernel
theorem dX8_clear_5 : decode cX8_clear 5 = .ok (.iload_n 1, 1) := by decide +kernel
theorem dX8_clear_6 : decode cX8_clear 6 = .ok (.ifCond .ge 5, 3) := by decide +kernel
theorem dX8_clear_9 : decode cX8_clear 9 = .ok (.iload_n 1, 1) := by decide +kernel
theorem dX8_clear_10 : decode cX8_clear 10 = .ok (.ireturn, 1) := by decide +kernel
theorem dX8_clear_11 : decode cX8_clear 11 = .ok (.aload_n 0, 1) := by decide +kernel
theorem dX8_clear_12 : decode cX8_clear 12 = .ok (.iconst 0, 1) := by decide +kernel
theorem dX8_clear_13 : decode cX8_clear 13 = .ok (.putfield 100, 3) := by decide +kernel
theorem dX8_clear_16 : decode cX8_clear 16 = .ok (.aload_n 0, 1) := by decide +kernel
theorem dX8_clear_17 : decode cX8_clear 17 = .ok (.aload_n 0, 1) := by decide +kernel
theorem dX8_clear_18 : decode cX8_clear 18 = .ok (.getfield 35, 3) := by decide +kernel
theorem dX8_clear_21 : decode cX8_clear 21 = .ok (.iconst 0, 1) := by decide +kernel
theorem dX8_clear_22 : decode cX8_clear 22 = .ok (.bipush 32, 2) := by decide +kernel
theorem dX8_clear_24 : decode cX8_clear 24 = .ok (.invokevirtual 134, 3) := by decide +kernel
theorem dX8_clear_27 : decode cX8_clear 27 = .ok (.aload_n 0, 1) := by decide +kernel
theorem dX8_clear_28 : decode cX8_clear 28 = .ok (.aload_n 0, 1) := by decide +kernel
theorem dX8_clear_29 : decode cX8_clear 29 = .ok (.getfield 35, 3) := by decide +kernel
theorem dX8_clear_32 : decode cX8_clear 32 = .ok (.iconst 0, 1) := by decide +kernel
theorem dX8_clear_33 : decode cX8_clear 33 = .ok (.invokevirtual 111, 3) := by decide +kernel
theorem dX8_clear_36 : decode cX8_clear 36 = .ok (.iconst 0, 1) := by decide +kernel
theorem dX8_clear_37 : decode cX8_clear 37 = .ok (.istore_n 2, 1) := by decide +kernel
theorem dX8_clear_38 : decode cX8_clear 38 = .ok (.iload_n 2, 1) := by decide +kernel
theorem dX8_clear_39 : decode cX8_clear 39 = .ok (.bipush 12, 2) := by decide +kernel
theorem dX8_clear_41 : decode cX8_clear 41 = .ok (.if_icmp .ge 16, 3) := by decide +kernel
theorem dX8_clear_44 : decode cX8_clear 44 = .ok (.aload_n 0, 1) := by decide +kernel
theorem dX8_clear_45 : decode cX8_clear 45 = .ok (.getfield 73, 3) := by decide +kernel
theorem dX8_clear_48 : decode cX8_clear 48 = .ok (.iload_n 2, 1) := by decide +kernel
theorem dX8_clear_49 : decode cX8_clear 49 = .ok (.iconst 0, 1) := by decide +kernel
theorem dX8_clear_50 : decode cX8_clear 50 = .ok (.bastore, 1) := by decide +kernel
theorem dX8_clear_51 : decode cX8_clear 51 = .ok (.iinc 2 1, 3) := by decide +kernel
theorem dX8_clear_54 : decode cX8_clear 54 = .ok (.goto (-16), 3) := by decide +kernel
theorem dX8_clear_57 : decode cX8_clear 57 = .ok (.aload_n 0, 1) := by decide +kernel
theorem dX8_clear_58 : decode cX8_clear 58 = .ok (.iconst 0, 1) := by decide +kernel
theorem dX8_clear_59 : decode cX8_clear 59 = .ok (.putfield 100, 3) := by decide +kernel
theorem dX8_clear_62 : decode cX8_clear 62 = .ok (.aload_n 0, 1) := by decide +kernel
theorem dX8_clear_63 : decode cX8_clear 63 = .ok (.aload_n 0, 1) := by decide +kernel
theorem dX8_clear_64 : decode cX8_clear 64 = .ok (.getfield 41, 3) := by decide +kernel
theorem dX8_clear_67 : decode cX8_clear 67 = .ok (.iconst 0, 1) := by decide +kernel
theorem dX8_clear_68 : decode cX8_clear 68 = .ok (.invokevirtual 111, 3) := by decide +kernel
theorem dX8_clear_71 : decode cX8_clear 71 = .ok (.iconst 0, 1) := by decide +kernel
theorem dX8_clear_72 : decode cX8_clear 72 = .ok (.ireturn, 1) := by decide +kernel
theorem dX8_tick_0 : decode cX8_tick 0 = .ok (.iload_n 1, 1) := by decide +kernel
theorem dX8_tick_1 : decode cX8_tick 1 = .ok (.ifCond .lt 20, 3) := by decide +kernel
theorem dX8_tick_4 : decode cX8_tick 4 = .ok (.iload_n 1, 1) := by decide +kernel
theorem dX8_tick_5 : decode cX8_tick 5 = .ok (.ldc 240, 2) := by decide +kernel
theorem dX8_tick_7 : decode cX8_tick 7 = .ok (.if_icmp .gt 14, 3) := by decide +kernel
theorem dX8_tick_10 : decode cX8_tick 10 = .ok (.aload_n 0, 1) := by decide +kernel
theorem dX8_tick_11 : decode cX8_tick 11 = .ok (.getfield 163, 3) := by decide +kernel
theorem dX8_tick_14 : decode cX8_tick 14 = .ok (.ldc 241, 2) := by decide +kernel
theorem dX8_tick_16 : decode cX8_tick 16 = .ok (.iload_n 1, 1) := by decide +kernel
theorem dX8_tick_17 : decode cX8_tick 17 = .ok (.isub, 1) := by decide +kernel
theorem dX8_tick_18 : decode cX8_tick 18 = .ok (.if_icmp .le 5, 3) := by decide +kernel
theorem dX8_tick_21 : decode cX8_tick 21 = .ok (.iconst (-1), 1) := by decide +kernel
theorem dX8_tick_22 : decode cX8_tick 22 = .ok (.ireturn, 1) := by decide +kernel
theorem dX8_tick_23 : decode cX8_tick 23 = .ok (.aload_n 0, 1) := by decide +kernel
theorem dX8_tick_24 : decode cX8_tick 24 = .ok (.getfield 163, 3) := by decide +kernel
theorem dX8_tick_27 : decode cX8_tick 27 = .ok (.iload_n 1, 1) := by decide +kernel
theorem dX8_tick_28 : decode cX8_tick 28 = .ok (.iadd, 1) := by decide +kernel
theorem dX8_tick_29 : decode cX8_tick 29 = .ok (.bipush 100, 2) := by decide +kernel
theorem dX8_tick_31 : decode cX8_tick 31 = .ok (.idiv, 1) := by decide +kernel
theorem dX8_tick_32 : decode cX8_tick 32 = .ok (.aload_n 0, 1) := by decide +kernel
theorem dX8_tick_33 : decode cX8_tick 33 = .ok (.getfield 163, 3) := by decide +kernel
theorem dX8_tick_36 : decode cX8_tick 36 = .ok (.bipush 100, 2) := by decide +kernel
theorem dX8_tick_38 : decode cX8_tick 38 = .ok (.idiv, 1) := by decide +kernel
theorem dX8_tick_39 : decode cX8_tick 39 = .ok (.isub, 1) := by decide +kernel
theorem dX8_tick_40 : decode cX8_tick 40 = .ok (.istore_n 2, 1) := by decide +kernel
theorem dX8_tick_41 : decode cX8_tick 41 = .ok (.aload_n 0, 1) := by decide +kernel
theorem dX8_tick_42 : decode cX8_tick 42 = .ok (.dup, 1) := by decide +kernel
theorem dX8_tick_43 : decode cX8_tick 43 = .ok (.getfield 163, 3) := by decide +kernel
theorem dX8_tick_46 : decode cX8_tick 46 = .ok (.iload_n 1, 1) := by decide +kernel
theorem dX8_tick_47 : decode cX8_tick 47 = .ok (.iadd, 1) := by decide +kernel
theorem dX8_tick_48 : decode cX8_tick 48 = .ok (.putfield 163, 3) := by decide +kernel
theorem dX8_tick_51 : decode cX8_tick 51 = .ok (.aload_n 0, 1) := by decide +kernel
theorem dX8_tick_52 : decode cX8_tick 52 = .ok (.aload_n 0, 1) := by decide +kernel
theorem dX8_tick_53 : decode cX8_tick 53 = .ok (.getfield 193, 3) := by decide +kernel
theorem dX8_tick_56 : decode cX8_tick 56 = .ok (.iload_n 2, 1) := by decide +kernel
theorem dX8_tick_57 : decode cX8_tick 57 = .ok (.if_icmp .le 12, 3) := by decide +kernel
theorem dX8_tick_60 : decode cX8_tick 60 = .ok (.aload_n 0, 1) := by decide +kernel
theorem dX8_tick_61 : decode cX8_tick 61 = .ok (.getfield 193, 3) := by decide +kernel
theorem dX8_tick_64 : decode cX8_tick 64 = .ok (.iload_n 2, 1) := by decide +kernel
theorem dX8_tick_65 : decode cX8_tick 65 = .ok (.isub, 1) := by decide +kernel
theorem dX8_tick_66 : decode cX8_tick 66 = .ok (.goto 4, 3) := by decide +kernel
theorem dX8_tick_69 : decode cX8_tick 69 = .ok (.iconst 0, 1) := by decide +kernel
theorem dX8_tick_70 : decode cX8_tick 70 = .ok (.putfield 193, 3) := by decide +kernel
theorem dX8_tick_73 : decode cX8_tick 73 = .ok (.aload_n 0, 1) := by decide +kernel
theorem dX8_tick_74 : decode cX8_tick 74 = .ok (.getfield 163, 3) := by decide +kernel
theorem dX8_tick_77 : decode cX8_tick 77 = .ok (.ireturn, 1) := by decide +kernel
theorem dX8_restart_0 : decode cX8_restart 0 = .ok (.aload_n 0, 1) := by decide +kernel
theorem dX8_restart_1 : decode cX8_restart 1 = .ok (.dup, 1) := by decide +kernel
theorem dX8_restart_2 : decode cX8_restart 2 = .ok (.getfield 169, 3) := by decide +kernel
theorem dX8_restart_5 : decode cX8_restart 5 = .ok (.iconst 1, 1) := by decide +kernel
theorem dX8_restart_6 : decode cX8_restart 6 = .ok (.iadd, 1) := by decide +kernel
theorem dX8_restart_7 : decode cX8_restart 7 = .ok (.putfield 169, 3) := by decide +kernel
theorem dX8_restart_10 : decode cX8_restart 10 = .ok (.iconst 0, 1) := by decide +kernel
theorem dX8_restart_11 : decode cX8_restart 11 = .ok (.istore_n 1, 1) := by decide +kernel
theorem dX8_restart_12 : decode cX8_restart 12 = .ok (.iload_n 1, 1) := by decide +kernel
theorem dX8_restart_13 : decode cX8_restart 13 = .ok (.aload_n 0, 1) := by decide +kernel
theorem dX8_restart_14 : decode cX8_restart 14 = .ok (.getfield 44, 3) := by decide +kernel
theorem dX8_restart_17 : decode cX8_restart 17 = .ok (.arraylength, 1) := by decide +kernel
theorem dX8_restart_18 : decode cX8_restart 18 = .ok (.if_icmp .ge 16, 3) := by decide +kernel
theorem dX8_restart_21 : decode cX8_restart 21 = .ok (.aload_n 0, 1) := by decide +kernel
theorem dX8_restart_22 : decode cX8_restart 22 = .ok (.getfield 44, 3) := by decide +kernel
theorem dX8_restart_25 : decode cX8_restart 25 = .ok (.iload_n 1, 1) := by decide +kernel
theorem dX8_restart_26 : decode cX8_restart 26 = .ok (.iconst 0, 1) := by decide +kernel
theorem dX8_restart_27 : decode cX8_restart 27 = .ok (.bastore, 1) := by decide +kernel
theorem dX8_restart_28 : decode cX8_restart 28 = .ok (.iinc 1 1, 3) := by decide +kernel
theorem dX8_restart_31 : decode cX8_restart 31 = .ok (.goto (-19), 3) := by decide +kernel
theorem dX8_restart_34 : decode cX8_restart 34 = .ok (.iconst 0, 1) := by decide +kernel
theorem dX8_restart_35 : decode cX8_restart 35 = .ok (.istore_n 1, 1) := by decide +kernel
theorem dX8_restart_36 : decode cX8_restart 36 = .ok (.iload_n 1, 1) := by decide +kernel
theorem dX8_restart_37 : decode cX8_restart 37 = .ok (.iconst 4, 1) := by decide +kernel
theorem dX8_restart_38 : decode cX8_restart 38 = .ok (.if_icmp .ge 16, 3) := by decide +kernel
theorem dX8_restart_41 : decode cX8_restart 41 = .ok (.aload_n 0, 1) := by decide +kernel
theorem dX8_restart_42 : decode cX8_restart 42 = .ok (.getfield 47, 3) := by decide +kernel
theorem dX8_restart_45 : decode cX8_restart 45 = .ok (.iload_n 1, 1) := by decide +kernel
theorem dX8_restart_46 : decode cX8_restart 46 = .ok (.iconst 0, 1) := by decide +kernel
theorem dX8_restart_47 : decode cX8_restart 47 = .ok (.bastore, 1) := by decide +kernel
theorem dX8_restart_48 : decode cX8_restart 48 = .ok (.iinc 1 1, 3) := by decide +kernel
theorem dX8_restart_51 : decode cX8_restart 51 = .ok (.goto (-15), 3) := by decide +kernel
theorem dX8_restart_54 : decode cX8_restart 54 = .ok (.iconst 0, 1) := by decide +kernel
theorem dX8_restart_55 : decode cX8_restart 55 = .ok (.istore_n 1, 1) := by decide +kernel
theorem dX8_restart_56 : decode cX8_restart 56 = .ok (.iload_n 1, 1) := by decide +kernel
theorem dX8_restart_57 : decode cX8_restart 57 = .ok (.iconst 4, 1) := by decide +kernel
theorem dX8_restart_58 : decode cX8_restart 58 = .ok (.if_icmp .ge 16, 3) := by decide +kernel
theorem dX8_restart_61 : decode cX8_restart 61 = .ok (.aload_n 0, 1) := by decide +kernel
theorem dX8_restart_62 : decode cX8_restart 62 = .ok (.getfield 73, 3) := by decide +kernel
theorem dX8_restart_65 : decode cX8_restart 65 = .ok (.iload_n 1, 1) := by decide +kernel
theorem dX8_restart_66 : decode cX8_restart 66 = .ok (.iconst 0, 1) := by decide +kernel
theorem dX8_restart_67 : decode cX8_restart 67 = .ok (.bastore, 1) := by decide +kernel
theorem dX8_restart_68 : decode cX8_restart 68 = .ok (.iinc 1 1, 3) := by decide +kernel
theorem dX8_restart_71 : decode cX8_restart 71 = .ok (.goto (-15), 3) := by decide +kernel
theorem dX8_restart_74 : decode cX8_restart 74 = .ok (.iconst 4, 1) := by decide +kernel
theorem dX8_restart_75 : decode cX8_restart 75 = .ok (.istore_n 1, 1) := by decide +kernel
theorem dX8_restart_76 : decode cX8_restart 76 = .ok (.iload_n 1, 1) := by decide +kernel
theorem dX8_restart_77 : decode cX8_restart 77 = .ok (.bipush 12, 2) := by decide +kernel
theorem dX8_restart_79 : decode cX8_restart 79 = .ok (.if_icmp .ge 16, 3) := by decide +kernel
theorem dX8_restart_82 : decode cX8_restart 82 = .ok (.aload_n 0, 1) := by decide +kernel
theorem dX8_restart_83 : decode cX8_restart 83 = .ok (.getfield 94, 3) := by decide +kernel
theorem dX8_restart_86 : decode cX8_restart 86 = .ok (.iload_n 1, 1) := by decide +kernel
theorem dX8_restart_87 : decode cX8_restart 87 = .ok (.iconst 0, 1) := by decide +kernel
theorem dX8_restart_88 : decode cX8_restart 88 = .ok (.bastore, 1) := by decide +kernel
theorem dX8_restart_89 : decode cX8_restart 89 = .ok (.iinc 1 1, 3) := by decide +kernel
theorem dX8_restart_92 : decode cX8_restart 92 = .ok (.goto (-16), 3) := by decide +kernel
theorem dX8_restart_95 : decode cX8_restart 95 = .ok (.aload_n 0, 1) := by decide +kernel
theorem dX8_restart_96 : decode cX8_restart 96 = .ok (.getfield 169, 3) := by decide +kernel
theorem dX8_restart_99 : decode cX8_restart 99 = .ok (.ireturn, 1) := by decide +kernel
theorem dX8_many_0 : decode cX8_many 0 = .ok (.iconst 0, 1) := by decide +kernel
theorem dX8_many_1 : decode cX8_many 1 = .ok (.istore_n 3, 1) := by decide +kernel
theorem dX8_many_2 : decode cX8_many 2 = .ok (.iload_n 1, 1) := by decide +kernel
theorem dX8_many_3 : decode cX8_many 3 = .ok (.istore 4, 2) := by decide +kernel
theorem dX8_many_5 : decode cX8_many 5 = .ok (.iload 4, 2) := by decide +kernel
theorem dX8_many_7 : decode cX8_many 7 = .ok (.iload_n 2, 1) := by decide +kernel
theorem dX8_many_8 : decode cX8_many 8 = .ok (.if_icmp .ge 24, 3) := by decide +kernel
theorem dX8_many_11 : decode cX8_many 11 = .ok (.iload_n 3, 1) := by decide +kernel
theorem dX8_many_12 : decode cX8_many 12 = .ok (.aload_n 0, 1) := by decide +kernel
theorem dX8_many_13 : decode cX8_many 13 = .ok (.iload 4, 2) := by decide +kernel
theorem dX8_many_15 : decode cX8_many 15 = .ok (.baload, 1) := by decide +kernel
theorem dX8_many_16 : decode cX8_many 16 = .ok (.ifCond .eq 7, 3) := by decide +kernel
theorem dX8_many_19 : decode cX8_many 19 = .ok (.iconst 1, 1) := by decide +kernel
theorem dX8_many_20 : decode cX8_many 20 = .ok (.goto 4, 3) := by decide +kernel
theorem dX8_many_23 : decode cX8_many 23 = .ok (.iconst 0, 1) := by decide +kernel
theorem dX8_many_24 : decode cX8_many 24 = .ok (.iadd, 1) := by decide +kernel
theorem dX8_many_25 : decode cX8_many 25 = .ok (.istore_n 3, 1) := by decide +kernel
theorem dX8_many_26 : decode cX8_many 26 = .ok (.iinc 4 1, 3) := by decide +kernel
theorem dX8_many_29 : decode cX8_many 29 = .ok (.goto (-24), 3) := by decide +kernel
theorem dX8_many_32 : decode cX8_many 32 = .ok (.iload_n 3, 1) := by decide +kernel
theorem dX8_many_33 : decode cX8_many 33 = .ok (.ireturn, 1) := by decide +kernel
theorem dX8_look_0 : decode cX8_look 0 = .ok (.iload_n 1, 1) := by decide +kernel
theorem dX8_look_1 : decode cX8_look 1 = .ok (.tableswitch 103 0 7 #[47, 52, 57, 62, 67, 77, 87, 98], 47) := by decide +kernel
theorem dX8_look_48 : decode cX8_look 48 = .ok (.aload_n 0, 1) := by decide +kernel
theorem dX8_look_49 : decode cX8_look 49 = .ok (.getfield 193, 3) := by decide +kernel
theorem dX8_look_52 : decode cX8_look 52 = .ok (.ireturn, 1) := by decide +kernel
theorem dX8_look_53 : decode cX8_look 53 = .ok (.aload_n 0, 1) := by decide +kernel
theorem dX8_look_54 : decode cX8_look 54 = .ok (.getfield 163, 3) := by decide +kernel
theorem dX8_look_57 : decode cX8_look 57 = .ok (.ireturn, 1) := by decide +kernel
theorem dX8_look_58 : decode cX8_look 58 = .ok (.aload_n 0, 1) := by decide +kernel
theorem dX8_look_59 : decode cX8_look 59 = .ok (.getfield 169, 3) := by decide +kernel
theorem dX8_look_62 : decode cX8_look 62 = .ok (.ireturn, 1) := by decide +kernel
theorem dX8_look_63 : decode cX8_look 63 = .ok (.aload_n 0, 1) := by decide +kernel
theorem dX8_look_64 : decode cX8_look 64 = .ok (.getfield 203, 3) := by decide +kernel
theorem dX8_look_67 : decode cX8_look 67 = .ok (.ireturn, 1) := by decide +kernel
theorem dX8_look_68 : decode cX8_look 68 = .ok (.aload_n 0, 1) := by decide +kernel
theorem dX8_look_69 : decode cX8_look 69 = .ok (.getfield 73, 3) := by decide +kernel
theorem dX8_look_72 : decode cX8_look 72 = .ok (.iconst 0, 1) := by decide +kernel
theorem dX8_look_73 : decode cX8_look 73 = .ok (.iconst 4, 1) := by decide +kernel
theorem dX8_look_74 : decode cX8_look 74 = .ok (.invokestatic 242, 3) := by decide +kernel
theorem dX8_look_77 : decode cX8_look 77 = .ok (.ireturn, 1) := by decide +kernel
theorem dX8_look_78 : decode cX8_look 78 = .ok (.aload_n 0, 1) := by decide +kernel
theorem dX8_look_79 : decode cX8_look 79 = .ok (.getfield 47, 3) := by decide +kernel
theorem dX8_look_82 : decode cX8_look 82 = .ok (.iconst 0, 1) := by decide +kernel
theorem dX8_look_83 : decode cX8_look 83 = .ok (.iconst 4, 1) := by decide +kernel
theorem dX8_look_84 : decode cX8_look 84 = .ok (.invokestatic 242, 3) := by decide +kernel
theorem dX8_look_87 : decode cX8_look 87 = .ok (.ireturn, 1) := by decide +kernel
theorem dX8_look_88 : decode cX8_look 88 = .ok (.aload_n 0, 1) := by decide +kernel
theorem dX8_look_89 : decode cX8_look 89 = .ok (.getfield 73, 3) := by decide +kernel
theorem dX8_look_92 : decode cX8_look 92 = .ok (.iconst 4, 1) := by decide +kernel
theorem dX8_look_93 : decode cX8_look 93 = .ok (.bipush 12, 2) := by decide +kernel
theorem dX8_look_95 : decode cX8_look 95 = .ok (.invokestatic 242, 3) := by decide +kernel
theorem dX8_look_98 : decode cX8_look 98 = .ok (.ireturn, 1) := by decide +kernel
theorem dX8_look_99 : decode cX8_look 99 = .ok (.aload_n 0, 1) := by decide +kernel
theorem dX8_look_100 : decode cX8_look 100 = .ok (.getfield 137, 3) := by decide +kernel
theorem dX8_look_103 : decode cX8_look 103 = .ok (.ireturn, 1) := by decide +kernel
theorem dX8_look_104 : decode cX8_look 104 = .ok (.iconst (-1), 1) := by decide +kernel
theorem dX8_look_105 : decode cX8_look 105 = .ok (.ireturn, 1) := by decide +kernel
theorem dJ9_floorMod_7cf53_0 : decode cJ9_floorMod_7cf53 0 = .ok (.iload_n 0, 1) := by decide +kernel
theorem dJ9_floorMod_7cf53_1 : decode cJ9_floorMod_7cf53 1 = .ok (.iload_n 1, 1) := by decide +kernel
theorem dJ9_floorMod_7cf53_2 : decode cJ9_floorMod_7cf53 2 = .ok (.irem, 1) := by decide +kernel
theorem dJ9_floorMod_7cf53_3 : decode cJ9_floorMod_7cf53 3 = .ok (.istore_n 2, 1) := by decide +kernel
theorem dJ9_floorMod_7cf53_4 : decode cJ9_floorMod_7cf53 4 = .ok (.iload_n 0, 1) := by decide +kernel
theorem dJ9_floorMod_7cf53_5 : decode cJ9_floorMod_7cf53 5 = .ok (.iload_n 1, 1) := by decide +kernel
theorem dJ9_floorMod_7cf53_6 : decode cJ9_floorMod_7cf53 6 = .ok (.ixor, 1) := by decide +kernel
theorem dJ9_floorMod_7cf53_7 : decode cJ9_floorMod_7cf53 7 = .ok (.ifCond .ge 11, 3) := by decide +kernel
theorem dJ9_floorMod_7cf53_10 : decode cJ9_floorMod_7cf53 10 = .ok (.iload_n 2, 1) := by decide +kernel
theorem dJ9_floorMod_7cf53_11 : decode cJ9_floorMod_7cf53 11 = .ok (.ifCond .eq 7, 3) := by decide +kernel
theorem dJ9_floorMod_7cf53_14 : decode cJ9_floorMod_7cf53 14 = .ok (.iload_n 2, 1) := by decide +kernel
theorem dJ9_floorMod_7cf53_15 : decode cJ9_floorMod_7cf53 15 = .ok (.iload_n 1, 1) := by decide +kernel
theorem dJ9_floorMod_7cf53_16 : decode cJ9_floorMod_7cf53 16 = .ok (.iadd, 1) := by decide +kernel
theorem dJ9_floorMod_7cf53_17 : decode cJ9_floorMod_7cf53 17 = .ok (.ireturn, 1) := by decide +kernel
theorem dJ9_floorMod_7cf53_18 : decode cJ9_floorMod_7cf53 18 = .ok (.iload_n 2, 1) := by decide +kernel
theorem dJ9_floorMod_7cf53_19 : decode cJ9_floorMod_7cf53 19 = .ok (.ireturn, 1) := by decide +kernel
theorem dJ9_max_7cf53_0 : decode cJ9_max_7cf53 0 = .ok (.iload_n 0, 1) := by decide +kernel
theorem dJ9_max_7cf53_1 : decode cJ9_max_7cf53 1 = .ok (.iload_n 1, 1) := by decide +kernel
theorem dJ9_max_7cf53_2 : decode cJ9_max_7cf53 2 = .ok (.if_icmp .lt 7, 3) := by decide +kernel
theorem dJ9_max_7cf53_5 : decode cJ9_max_7cf53 5 = .ok (.iload_n 0, 1) := by decide +kernel
theorem dJ9_max_7cf53_6 : decode cJ9_max_7cf53 6 = .ok (.goto 4, 3) := by decide +kernel
theorem dJ9_max_7cf53_9 : decode cJ9_max_7cf53 9 = .ok (.iload_n 1, 1) := by decide +kernel
theorem dJ9_max_7cf53_10 : decode cJ9_max_7cf53 10 = .ok (.ireturn, 1) := by decide +kernel
theorem dJ9_max_f86c9_0 : decode cJ9_max_f86c9 0 = .ok (.lload_n 0, 1) := by decide +kernel
theorem dJ9_max_f86c9_1 : decode cJ9_max_f86c9 1 = .ok (.lload_n 2, 1) := by decide +kernel
theorem dJ9_max_f86c9_2 : decode cJ9_max_f86c9 2 = .ok (.lcmp, 1) := by decide +kernel
theorem dJ9_max_f86c9_3 : decode cJ9_max_f86c9 3 = .ok (.ifCond .lt 7, 3) := by decide +kernel
theorem dJ9_max_f86c9_6 : decode cJ9_max_f86c9 6 = .ok (.lload_n 0, 1) := by decide +kernel
theorem dJ9_max_f86c9_7 : decode cJ9_max_f86c9 7 = .ok (.goto 4, 3) := by decide +kernel
theorem dJ9_max_f86c9_10 : decode cJ9_max_f86c9 10 = .ok (.lload_n 2, 1) := by decide +kernel
theorem dJ9_max_f86c9_11 : decode cJ9_max_f86c9 11 = .ok (.lreturn, 1) := by decide +kernel
theorem dJ9_min_7cf53_0 : decode cJ9_min_7cf53 0 = .ok (.iload_n 0, 1) := by decide +kernel
theorem dJ9_min_7cf53_1 : decode cJ9_min_7cf53 1 = .ok (.iload_n 1, 1) := by decide +kernel
theorem dJ9_min_7cf53_2 : decode cJ9_min_7cf53 2 = .ok (.if_icmp .gt 7, 3) := by decide +kernel
theorem dJ9_min_7cf53_5 : decode cJ9_min_7cf53 5 = .ok (.iload_n 0, 1) := by decide +kernel
theorem dJ9_min_7cf53_6 : decode cJ9_min_7cf53 6 = .ok (.goto 4, 3) := by decide +kernel
theorem dJ9_min_7cf53_9 : decode cJ9_min_7cf53 9 = .ok (.iload_n 1, 1) := by decide +kernel
theorem dJ9_min_7cf53_10 : decode cJ9_min_7cf53 10 = .ok (.ireturn, 1) := by decide +kernel
theorem dJ7_fill_031fb_0 : decode cJ7_fill_031fb 0 = .ok (.iconst 0, 1) := by decide +kernel
theorem dJ7_fill_031fb_1 : decode cJ7_fill_031fb 1 = .ok (.istore_n 2, 1) := by decide +kernel
theorem dJ7_fill_031fb_2 : decode cJ7_fill_031fb 2 = .ok (.aload_n 0, 1) := by decide +kernel
theorem dJ7_fill_031fb_3 : decode cJ7_fill_031fb 3 = .ok (.arraylength, 1) := by decide +kernel
theorem dJ7_fill_031fb_4 : decode cJ7_fill_031fb 4 = .ok (.istore_n 3, 1) := by decide +kernel
theorem dJ7_fill_031fb_5 : decode cJ7_fill_031fb 5 = .ok (.iload_n 2, 1) := by decide +kernel
theorem dJ7_fill_031fb_6 : decode cJ7_fill_031fb 6 = .ok (.iload_n 3, 1) := by decide +kernel
theorem dJ7_fill_031fb_7 : decode cJ7_fill_031fb 7 = .ok (.if_icmp .ge 13, 3) := by decide +kernel
theorem dJ7_fill_031fb_10 : decode cJ7_fill_031fb 10 = .ok (.aload_n 0, 1) := by decide +kernel
theorem dJ7_fill_031fb_11 : decode cJ7_fill_031fb 11 = .ok (.iload_n 2, 1) := by decide +kernel
theorem dJ7_fill_031fb_12 : decode cJ7_fill_031fb 12 = .ok (.iload_n 1, 1) := by decide +kernel
theorem dJ7_fill_031fb_13 : decode cJ7_fill_031fb 13 = .ok (.bastore, 1) := by decide +kernel
theorem dJ7_fill_031fb_14 : decode cJ7_fill_031fb 14 = .ok (.iinc 2 1, 3) := by decide +kernel
theorem dJ7_fill_031fb_17 : decode cJ7_fill_031fb 17 = .ok (.goto (-12), 3) := by decide +kernel
theorem dJ7_fill_031fb_20 : decode cJ7_fill_031fb 20 = .ok (.return_, 1) := by decide +kernel
theorem dL_cell_0 : decode cL_cell 0 = .ok (.iload_n 1, 1) := by decide +kernel
theorem dL_cell_1 : decode cL_cell 1 = .ok (.aload_n 0, 1) := by decide +kernel
theorem dL_cell_2 : decode cL_cell 2 = .ok (.arraylength, 1) := by decide +kernel
theorem dL_cell_3 : decode cL_cell 3 = .ok (.if_icmp .ge 9, 3) := by decide +kernel
theorem dL_cell_6 : decode cL_cell 6 = .ok (.aload_n 0, 1) := by decide +kernel
theorem dL_cell_7 : decode cL_cell 7 = .ok (.iload_n 1, 1) := by decide +kernel
theorem dL_cell_8 : decode cL_cell 8 = .ok (.iaload, 1) := by decide +kernel
theorem dL_cell_9 : decode cL_cell 9 = .ok (.goto 4, 3) := by decide +kernel
theorem dL_cell_12 : decode cL_cell 12 = .ok (.iconst 0, 1) := by decide +kernel
theorem dL_cell_13 : decode cL_cell 13 = .ok (.ireturn, 1) := by decide +kernel
end
section
theorem dL_law_0 : decode cL_law 0 = .ok (.new 7, 3) := by decide +kernel
theorem dL_law_3 : decode cL_law 3 = .ok (.dup, 1) := by decide +kernel
theorem dL_law_4 : decode cL_law 4 = .ok (.aload_n 0, 1) := by decide +kernel
theorem dL_law_5 : decode cL_law 5 = .ok (.iconst 0, 1) := by decide +kernel
theorem dL_law_6 : decode cL_law 6 = .ok (.invokestatic 9, 3) := by decide +kernel
theorem dL_law_9 : decode cL_law 9 = .ok (.invokespecial 15, 3) := by decide +kernel
theorem dL_law_12 : decode cL_law 12 = .ok (.astore_n 1, 1) := by decide +kernel
theorem dL_law_13 : decode cL_law 13 = .ok (.new 18, 3) := by decide +kernel
theorem dL_law_16 : decode cL_law 16 = .ok (.dup, 1) := by decide +kernel
theorem dL_law_17 : decode cL_law 17 = .ok (.aload_n 0, 1) := by decide +kernel
theorem dL_law_18 : decode cL_law 18 = .ok (.iconst 0, 1) := by decide +kernel
theorem dL_law_19 : decode cL_law 19 = .ok (.invokestatic 9, 3) := by decide +kernel
theorem dL_law_22 : decode cL_law 22 = .ok (.invokespecial 20, 3) := by decide +kernel
theorem dL_law_25 : decode cL_law 25 = .ok (.astore_n 2, 1) := by decide +kernel
theorem dL_law_26 : decode cL_law 26 = .ok (.iconst 1, 1) := by decide +kernel
theorem dL_law_27 : decode cL_law 27 = .ok (.istore_n 3, 1) := by decide +kernel
theorem dL_law_28 : decode cL_law 28 = .ok (.iload_n 3, 1) := by decide +kernel
theorem dL_law_29 : decode cL_law 29 = .ok (.aload_n 0, 1) := by decide +kernel
theorem dL_law_30 : decode cL_law 30 = .ok (.arraylength, 1) := by decide +kernel
theorem dL_law_31 : decode cL_law 31 = .ok (.bipush 6, 2) := by decide +kernel
theorem dL_law_33 : decode cL_law 33 = .ok (.isub, 1) := by decide +kernel
theorem dL_law_34 : decode cL_law 34 = .ok (.if_icmp .gt 1036, 3) := by decide +kernel
theorem dL_law_37 : decode cL_law 37 = .ok (.aload_n 0, 1) := by decide +kernel
theorem dL_law_38 : decode cL_law 38 = .ok (.iload_n 3, 1) := by decide +kernel
theorem dL_law_39 : decode cL_law 39 = .ok (.iaload, 1) := by decide +kernel
theorem dL_law_40 : decode cL_law 40 = .ok (.bipush 63, 2) := by decide +kernel
theorem dL_law_42 : decode cL_law 42 = .ok (.iand, 1) := by decide +kernel
theorem dL_law_43 : decode cL_law 43 = .ok (.tableswitch 1021 0 33 #[149, 212, 235, 258, 271, 284, 297, 320, 343, 366, 389, 412, 445, 468, 501, 534, 557, 580, 603, 616, 649, 672, 725, 748, 791, 824, 857, 890, 923, 936, 949, 962, 985, 998], 149) := by decide +kernel
theorem dL_law_192 : decode cL_law 192 = .ok (.aload_n 1, 1) := by decide +kernel
theorem dL_law_193 : decode cL_law 193 = .ok (.aload_n 0, 1) := by decide +kernel
theorem dL_law_194 : decode cL_law 194 = .ok (.iload_n 3, 1) := by decide +kernel
theorem dL_law_195 : decode cL_law 195 = .ok (.iconst 1, 1) := by decide +kernel
theorem dL_law_196 : decode cL_law 196 = .ok (.iadd, 1) := by decide +kernel
theorem dL_law_197 : decode cL_law 197 = .ok (.iaload, 1) := by decide +kernel
theorem dL_law_198 : decode cL_law 198 = .ok (.aload_n 0, 1) := by decide +kernel
theorem dL_law_199 : decode cL_law 199 = .ok (.iload_n 3, 1) := by decide +kernel
theorem dL_law_200 : decode cL_law 200 = .ok (.iconst 2, 1) := by decide +kernel
theorem dL_law_201 : decode cL_law 201 = .ok (.iadd, 1) := by decide +kernel
theorem dL_law_202 : decode cL_law 202 = .ok (.iaload, 1) := by decide +kernel
theorem dL_law_203 : decode cL_law 203 = .ok (.aload_n 0, 1) := by decide +kernel
theorem dL_law_204 : decode cL_law 204 = .ok (.iload_n 3, 1) := by decide +kernel
theorem dL_law_205 : decode cL_law 205 = .ok (.iconst 3, 1) := by decide +kernel
theorem dL_law_206 : decode cL_law 206 = .ok (.iadd, 1) := by decide +kernel
theorem dL_law_207 : decode cL_law 207 = .ok (.iaload, 1) := by decide +kernel
theorem dL_law_208 : decode cL_law 208 = .ok (.aload_n 0, 1) := by decide +kernel
theorem dL_law_209 : decode cL_law 209 = .ok (.iload_n 3, 1) := by decide +kernel
theorem dL_law_210 : decode cL_law 210 = .ok (.iconst 4, 1) := by decide +kernel
theorem dL_law_211 : decode cL_law 211 = .ok (.iadd, 1) := by decide +kernel
theorem dL_law_212 : decode cL_law 212 = .ok (.iaload, 1) := by decide +kernel
theorem dL_law_213 : decode cL_law 213 = .ok (.aload_n 0, 1) := by decide +kernel
theorem dL_law_214 : decode cL_law 214 = .ok (.iload_n 3, 1) := by decide +kernel
theorem dL_law_215 : decode cL_law 215 = .ok (.iconst 5, 1) := by decide +kernel
theorem dL_law_216 : decode cL_law 216 = .ok (.iadd, 1) := by decide +kernel
theorem dL_law_217 : decode cL_law 217 = .ok (.iaload, 1) := by decide +kernel
theorem dL_law_218 : decode cL_law 218 = .ok (.invokevirtual 21, 3) := by decide +kernel
theorem dL_law_221 : decode cL_law 221 = .ok (.aload_n 2, 1) := by decide +kernel
theorem dL_law_222 : decode cL_law 222 = .ok (.aload_n 0, 1) := by decide +kernel
theorem dL_law_223 : decode cL_law 223 = .ok (.iload_n 3, 1) := by decide +kernel
theorem dL_law_224 : decode cL_law 224 = .ok (.iconst 1, 1) := by decide +kernel
theorem dL_law_225 : decode cL_law 225 = .ok (.iadd, 1) := by decide +kernel
theorem dL_law_226 : decode cL_law 226 = .ok (.iaload, 1) := by decide +kernel
theorem dL_law_227 : decode cL_law 227 = .ok (.aload_n 0, 1) := by decide +kernel
theorem dL_law_228 : decode cL_law 228 = .ok (.iload_n 3, 1) := by decide +kernel
theorem dL_law_229 : decode cL_law 229 = .ok (.iconst 2, 1) := by decide +kernel
theorem dL_law_230 : decode cL_law 230 = .ok (.iadd, 1) := by decide +kernel
theorem dL_law_231 : decode cL_law 231 = .ok (.iaload, 1) := by decide +kernel
theorem dL_law_232 : decode cL_law 232 = .ok (.aload_n 0, 1) := by decide +kernel
theorem dL_law_233 : decode cL_law 233 = .ok (.iload_n 3, 1) := by decide +kernel
theorem dL_law_234 : decode cL_law 234 = .ok (.iconst 3, 1) := by decide +kernel
theorem dL_law_235 : decode cL_law 235 = .ok (.iadd, 1) := by decide +kernel
theorem dL_law_236 : decode cL_law 236 = .ok (.iaload, 1) := by decide +kernel
theorem dL_law_237 : decode cL_law 237 = .ok (.aload_n 0, 1) := by decide +kernel
theorem dL_law_238 : decode cL_law 238 = .ok (.iload_n 3, 1) := by decide +kernel
theorem dL_law_239 : decode cL_law 239 = .ok (.iconst 4, 1) := by decide +kernel
theorem dL_law_240 : decode cL_law 240 = .ok (.iadd, 1) := by decide +kernel
theorem dL_law_241 : decode cL_law 241 = .ok (.iaload, 1) := by decide +kernel
theorem dL_law_242 : decode cL_law 242 = .ok (.aload_n 0, 1) := by decide +kernel
theorem dL_law_243 : decode cL_law 243 = .ok (.iload_n 3, 1) := by decide +kernel
theorem dL_law_244 : decode cL_law 244 = .ok (.iconst 5, 1) := by decide +kernel
theorem dL_law_245 : decode cL_law 245 = .ok (.iadd, 1) := by decide +kernel
theorem dL_law_246 : decode cL_law 246 = .ok (.iaload, 1) := by decide +kernel
theorem dL_law_247 : decode cL_law 247 = .ok (.invokevirtual 25, 3) := by decide +kernel
theorem dL_law_250 : decode cL_law 250 = .ok (.if_icmp .eq 814, 3) := by decide +kernel
theorem dL_law_253 : decode cL_law 253 = .ok (.iconst 0, 1) := by decide +kernel
theorem dL_law_254 : decode cL_law 254 = .ok (.ireturn, 1) := by decide +kernel
theorem dL_law_255 : decode cL_law 255 = .ok (.aload_n 1, 1) := by decide +kernel
theorem dL_law_256 : decode cL_law 256 = .ok (.aload_n 0, 1) := by decide +kernel
theorem dL_law_257 : decode cL_law 257 = .ok (.iload_n 3, 1) := by decide +kernel
theorem dL_law_258 : decode cL_law 258 = .ok (.iconst 1, 1) := by decide +kernel
theorem dL_law_259 : decode cL_law 259 = .ok (.iadd, 1) := by decide +kernel
theorem dL_law_260 : decode cL_law 260 = .ok (.iaload, 1) := by decide +kernel
theorem dL_law_261 : decode cL_law 261 = .ok (.invokevirtual 26, 3) := by decide +kernel
theorem dL_law_264 : decode cL_law 264 = .ok (.aload_n 2, 1) := by decide +kernel
theorem dL_law_265 : decode cL_law 265 = .ok (.aload_n 0, 1) := by decide +kernel
theorem dL_law_266 : decode cL_law 266 = .ok (.iload_n 3, 1) := by decide +kernel
theorem dL_law_267 : decode cL_law 267 = .ok (.iconst 1, 1) := by decide +kernel
theorem dL_law_268 : decode cL_law 268 = .ok (.iadd, 1) := by decide +kernel
theorem dL_law_269 : decode cL_law 269 = .ok (.iaload, 1) := by decide +kernel
theorem dL_law_270 : decode cL_law 270 = .ok (.invokevirtual 30, 3) := by decide +kernel
theorem dL_law_273 : decode cL_law 273 = .ok (.if_icmp .eq 791, 3) := by decide +kernel
theorem dL_law_276 : decode cL_law 276 = .ok (.iconst 0, 1) := by decide +kernel
theorem dL_law_277 : decode cL_law 277 = .ok (.ireturn, 1) := by decide +kernel
theorem dL_law_278 : decode cL_law 278 = .ok (.aload_n 1, 1) := by decide +kernel
theorem dL_law_279 : decode cL_law 279 = .ok (.aload_n 0, 1) := by decide +kernel
theorem dL_law_280 : decode cL_law 280 = .ok (.iload_n 3, 1) := by decide +kernel
theorem dL_law_281 : decode cL_law 281 = .ok (.iconst 1, 1) := by decide +kernel
theorem dL_law_282 : decode cL_law 282 = .ok (.iadd, 1) := by decide +kernel
theorem dL_law_283 : decode cL_law 283 = .ok (.iaload, 1) := by decide +kernel
theorem dL_law_284 : decode cL_law 284 = .ok (.invokevirtual 31, 3) := by decide +kernel
theorem dL_law_287 : decode cL_law 287 = .ok (.aload_n 2, 1) := by decide +kernel
theorem dL_law_288 : decode cL_law 288 = .ok (.aload_n 0, 1) := by decide +kernel
theorem dL_law_289 : decode cL_law 289 = .ok (.iload_n 3, 1) := by decide +kernel
theorem dL_law_290 : decode cL_law 290 = .ok (.iconst 1, 1) := by decide +kernel
theorem dL_law_291 : decode cL_law 291 = .ok (.iadd, 1) := by decide +kernel
theorem dL_law_292 : decode cL_law 292 = .ok (.iaload, 1) := by decide +kernel
theorem dL_law_293 : decode cL_law 293 = .ok (.invokevirtual 34, 3) := by decide +kernel
theorem dL_law_296 : decode cL_law 296 = .ok (.if_icmp .eq 768, 3) := by decide +kernel
theorem dL_law_299 : decode cL_law 299 = .ok (.iconst 0, 1) := by decide +kernel
theorem dL_law_300 : decode cL_law 300 = .ok (.ireturn, 1) := by decide +kernel
theorem dL_law_301 : decode cL_law 301 = .ok (.aload_n 1, 1) := by decide +kernel
theorem dL_law_302 : decode cL_law 302 = .ok (.invokevirtual 35, 3) := by decide +kernel
theorem dL_law_305 : decode cL_law 305 = .ok (.aload_n 2, 1) := by decide +kernel
theorem dL_law_306 : decode cL_law 306 = .ok (.invokevirtual 39, 3) := by decide +kernel
theorem dL_law_309 : decode cL_law 309 = .ok (.if_icmp .eq 755, 3) := by decide +kernel
theorem dL_law_312 : decode cL_law 312 = .ok (.iconst 0, 1) := by decide +kernel
theorem dL_law_313 : decode cL_law 313 = .ok (.ireturn, 1) := by decide +kernel
theorem dL_law_314 : decode cL_law 314 = .ok (.aload_n 1, 1) := by decide +kernel
theorem dL_law_315 : decode cL_law 315 = .ok (.invokevirtual 40, 3) := by decide +kernel
theorem dL_law_318 : decode cL_law 318 = .ok (.aload_n 2, 1) := by decide +kernel
theorem dL_law_319 : decode cL_law 319 = .ok (.invokevirtual 43, 3) := by decide +kernel
theorem dL_law_322 : decode cL_law 322 = .ok (.if_icmp .eq 742, 3) := by decide +kernel
theorem dL_law_325 : decode cL_law 325 = .ok (.iconst 0, 1) := by decide +kernel
theorem dL_law_326 : decode cL_law 326 = .ok (.ireturn, 1) := by decide +kernel
theorem dL_law_327 : decode cL_law 327 = .ok (.aload_n 1, 1) := by decide +kernel
theorem dL_law_328 : decode cL_law 328 = .ok (.invokevirtual 44, 3) := by decide +kernel
theorem dL_law_331 : decode cL_law 331 = .ok (.aload_n 2, 1) := by decide +kernel
theorem dL_law_332 : decode cL_law 332 = .ok (.invokevirtual 47, 3) := by decide +kernel
theorem dL_law_335 : decode cL_law 335 = .ok (.if_icmp .eq 729, 3) := by decide +kernel
theorem dL_law_338 : decode cL_law 338 = .ok (.iconst 0, 1) := by decide +kernel
theorem dL_law_339 : decode cL_law 339 = .ok (.ireturn, 1) := by decide +kernel
theorem dL_law_340 : decode cL_law 340 = .ok (.aload_n 1, 1) := by decide +kernel
theorem dL_law_341 : decode cL_law 341 = .ok (.aload_n 0, 1) := by decide +kernel
theorem dL_law_342 : decode cL_law 342 = .ok (.iload_n 3, 1) := by decide +kernel
theorem dL_law_343 : decode cL_law 343 = .ok (.iconst 1, 1) := by decide +kernel
theorem dL_law_344 : decode cL_law 344 = .ok (.iadd, 1) := by decide +kernel
theorem dL_law_345 : decode cL_law 345 = .ok (.iaload, 1) := by decide +kernel
theorem dL_law_346 : decode cL_law 346 = .ok (.invokevirtual 48, 3) := by decide +kernel
theorem dL_law_349 : decode cL_law 349 = .ok (.aload_n 2, 1) := by decide +kernel
theorem dL_law_350 : decode cL_law 350 = .ok (.aload_n 0, 1) := by decide +kernel
theorem dL_law_351 : decode cL_law 351 = .ok (.iload_n 3, 1) := by decide +kernel
theorem dL_law_352 : decode cL_law 352 = .ok (.iconst 1, 1) := by decide +kernel
theorem dL_law_353 : decode cL_law 353 = .ok (.iadd, 1) := by decide +kernel
theorem dL_law_354 : decode cL_law 354 = .ok (.iaload, 1) := by decide +kernel
theorem dL_law_355 : decode cL_law 355 = .ok (.invokevirtual 51, 3) := by decide +kernel
theorem dL_law_358 : decode cL_law 358 = .ok (.if_icmp .eq 706, 3) := by decide +kernel
theorem dL_law_361 : decode cL_law 361 = .ok (.iconst 0, 1) := by decide +kernel
theorem dL_law_362 : decode cL_law 362 = .ok (.ireturn, 1) := by decide +kernel
theorem dL_law_363 : decode cL_law 363 = .ok (.aload_n 1, 1) := by decide +kernel
theorem dL_law_364 : decode cL_law 364 = .ok (.aload_n 0, 1) := by decide +kernel
theorem dL_law_365 : decode cL_law 365 = .ok (.iload_n 3, 1) := by decide +kernel
theorem dL_law_366 : decode cL_law 366 = .ok (.iconst 1, 1) := by decide +kernel
theorem dL_law_367 : decode cL_law 367 = .ok (.iadd, 1) := by decide +kernel
theorem dL_law_368 : decode cL_law 368 = .ok (.iaload, 1) := by decide +kernel
theorem dL_law_369 : decode cL_law 369 = .ok (.invokevirtual 52, 3) := by decide +kernel
theorem dL_law_372 : decode cL_law 372 = .ok (.aload_n 2, 1) := by decide +kernel
theorem dL_law_373 : decode cL_law 373 = .ok (.aload_n 0, 1) := by decide +kernel
theorem dL_law_374 : decode cL_law 374 = .ok (.iload_n 3, 1) := by decide +kernel
theorem dL_law_375 : decode cL_law 375 = .ok (.iconst 1, 1) := by decide +kernel
theorem dL_law_376 : decode cL_law 376 = .ok (.iadd, 1) := by decide +kernel
theorem dL_law_377 : decode cL_law 377 = .ok (.iaload, 1) := by decide +kernel
theorem dL_law_378 : decode cL_law 378 = .ok (.invokevirtual 55, 3) := by decide +kernel
theorem dL_law_381 : decode cL_law 381 = .ok (.if_icmp .eq 683, 3) := by decide +kernel
theorem dL_law_384 : decode cL_law 384 = .ok (.iconst 0, 1) := by decide +kernel
theorem dL_law_385 : decode cL_law 385 = .ok (.ireturn, 1) := by decide +kernel
theorem dL_law_386 : decode cL_law 386 = .ok (.aload_n 1, 1) := by decide +kernel
theorem dL_law_387 : decode cL_law 387 = .ok (.aload_n 0, 1) := by decide +kernel
theorem dL_law_388 : decode cL_law 388 = .ok (.iload_n 3, 1) := by decide +kernel
theorem dL_law_389 : decode cL_law 389 = .ok (.iconst 1, 1) := by decide +kernel
theorem dL_law_390 : decode cL_law 390 = .ok (.iadd, 1) := by decide +kernel
theorem dL_law_391 : decode cL_law 391 = .ok (.iaload, 1) := by decide +kernel
theorem dL_law_392 : decode cL_law 392 = .ok (.invokevirtual 56, 3) := by decide +kernel
theorem dL_law_395 : decode cL_law 395 = .ok (.aload_n 2, 1) := by decide +kernel
theorem dL_law_396 : decode cL_law 396 = .ok (.aload_n 0, 1) := by decide +kernel
theorem dL_law_397 : decode cL_law 397 = .ok (.iload_n 3, 1) := by decide +kernel
theorem dL_law_398 : decode cL_law 398 = .ok (.iconst 1, 1) := by decide +kernel
theorem dL_law_399 : decode cL_law 399 = .ok (.iadd, 1) := by decide +kernel
theorem dL_law_400 : decode cL_law 400 = .ok (.iaload, 1) := by decide +kernel
theorem dL_law_401 : decode cL_law 401 = .ok (.invokevirtual 59, 3) := by decide +kernel
theorem dL_law_404 : decode cL_law 404 = .ok (.if_icmp .eq 660, 3) := by decide +kernel
theorem dL_law_407 : decode cL_law 407 = .ok (.iconst 0, 1) := by decide +kernel
theorem dL_law_408 : decode cL_law 408 = .ok (.ireturn, 1) := by decide +kernel
theorem dL_law_409 : decode cL_law 409 = .ok (.aload_n 1, 1) := by decide +kernel
theorem dL_law_410 : decode cL_law 410 = .ok (.aload_n 0, 1) := by decide +kernel
theorem dL_law_411 : decode cL_law 411 = .ok (.iload_n 3, 1) := by decide +kernel
theorem dL_law_412 : decode cL_law 412 = .ok (.iconst 1, 1) := by decide +kernel
theorem dL_law_413 : decode cL_law 413 = .ok (.iadd, 1) := by decide +kernel
theorem dL_law_414 : decode cL_law 414 = .ok (.iaload, 1) := by decide +kernel
theorem dL_law_415 : decode cL_law 415 = .ok (.invokevirtual 60, 3) := by decide +kernel
theorem dL_law_418 : decode cL_law 418 = .ok (.aload_n 2, 1) := by decide +kernel
theorem dL_law_419 : decode cL_law 419 = .ok (.aload_n 0, 1) := by decide +kernel
theorem dL_law_420 : decode cL_law 420 = .ok (.iload_n 3, 1) := by decide +kernel
theorem dL_law_421 : decode cL_law 421 = .ok (.iconst 1, 1) := by decide +kernel
theorem dL_law_422 : decode cL_law 422 = .ok (.iadd, 1) := by decide +kernel
theorem dL_law_423 : decode cL_law 423 = .ok (.iaload, 1) := by decide +kernel
theorem dL_law_424 : decode cL_law 424 = .ok (.invokevirtual 63, 3) := by decide +kernel
theorem dL_law_427 : decode cL_law 427 = .ok (.if_icmp .eq 637, 3) := by decide +kernel
theorem dL_law_430 : decode cL_law 430 = .ok (.iconst 0, 1) := by decide +kernel
theorem dL_law_431 : decode cL_law 431 = .ok (.ireturn, 1) := by decide +kernel
theorem dL_law_432 : decode cL_law 432 = .ok (.aload_n 1, 1) := by decide +kernel
theorem dL_law_433 : decode cL_law 433 = .ok (.aload_n 0, 1) := by decide +kernel
theorem dL_law_434 : decode cL_law 434 = .ok (.iload_n 3, 1) := by decide +kernel
theorem dL_law_435 : decode cL_law 435 = .ok (.iconst 1, 1) := by decide +kernel
theorem dL_law_436 : decode cL_law 436 = .ok (.iadd, 1) := by decide +kernel
theorem dL_law_437 : decode cL_law 437 = .ok (.iaload, 1) := by decide +kernel
theorem dL_law_438 : decode cL_law 438 = .ok (.invokevirtual 64, 3) := by decide +kernel
theorem dL_law_441 : decode cL_law 441 = .ok (.aload_n 2, 1) := by decide +kernel
theorem dL_law_442 : decode cL_law 442 = .ok (.aload_n 0, 1) := by decide +kernel
theorem dL_law_443 : decode cL_law 443 = .ok (.iload_n 3, 1) := by decide +kernel
theorem dL_law_444 : decode cL_law 444 = .ok (.iconst 1, 1) := by decide +kernel
theorem dL_law_445 : decode cL_law 445 = .ok (.iadd, 1) := by decide +kernel
theorem dL_law_446 : decode cL_law 446 = .ok (.iaload, 1) := by decide +kernel
theorem dL_law_447 : decode cL_law 447 = .ok (.invokevirtual 67, 3) := by decide +kernel
theorem dL_law_450 : decode cL_law 450 = .ok (.if_icmp .eq 614, 3) := by decide +kernel
theorem dL_law_453 : decode cL_law 453 = .ok (.iconst 0, 1) := by decide +kernel
theorem dL_law_454 : decode cL_law 454 = .ok (.ireturn, 1) := by decide +kernel
theorem dL_law_455 : decode cL_law 455 = .ok (.aload_n 1, 1) := by decide +kernel
theorem dL_law_456 : decode cL_law 456 = .ok (.aload_n 0, 1) := by decide +kernel
theorem dL_law_457 : decode cL_law 457 = .ok (.iload_n 3, 1) := by decide +kernel
theorem dL_law_458 : decode cL_law 458 = .ok (.iconst 1, 1) := by decide +kernel
theorem dL_law_459 : decode cL_law 459 = .ok (.iadd, 1) := by decide +kernel
theorem dL_law_460 : decode cL_law 460 = .ok (.iaload, 1) := by decide +kernel
theorem dL_law_461 : decode cL_law 461 = .ok (.aload_n 0, 1) := by decide +kernel
theorem dL_law_462 : decode cL_law 462 = .ok (.iload_n 3, 1) := by decide +kernel
theorem dL_law_463 : decode cL_law 463 = .ok (.iconst 2, 1) := by decide +kernel
theorem dL_law_464 : decode cL_law 464 = .ok (.iadd, 1) := by decide +kernel
theorem dL_law_465 : decode cL_law 465 = .ok (.iaload, 1) := by decide +kernel
theorem dL_law_466 : decode cL_law 466 = .ok (.invokevirtual 68, 3) := by decide +kernel
theorem dL_law_469 : decode cL_law 469 = .ok (.aload_n 2, 1) := by decide +kernel
theorem dL_law_470 : decode cL_law 470 = .ok (.aload_n 0, 1) := by decide +kernel
theorem dL_law_471 : decode cL_law 471 = .ok (.iload_n 3, 1) := by decide +kernel
theorem dL_law_472 : decode cL_law 472 = .ok (.iconst 1, 1) := by decide +kernel
theorem dL_law_473 : decode cL_law 473 = .ok (.iadd, 1) := by decide +kernel
theorem dL_law_474 : decode cL_law 474 = .ok (.iaload, 1) := by decide +kernel
theorem dL_law_475 : decode cL_law 475 = .ok (.aload_n 0, 1) := by decide +kernel
theorem dL_law_476 : decode cL_law 476 = .ok (.iload_n 3, 1) := by decide +kernel
theorem dL_law_477 : decode cL_law 477 = .ok (.iconst 2, 1) := by decide +kernel
theorem dL_law_478 : decode cL_law 478 = .ok (.iadd, 1) := by decide +kernel
theorem dL_law_479 : decode cL_law 479 = .ok (.iaload, 1) := by decide +kernel
theorem dL_law_480 : decode cL_law 480 = .ok (.invokevirtual 72, 3) := by decide +kernel
theorem dL_law_483 : decode cL_law 483 = .ok (.if_icmp .eq 581, 3) := by decide +kernel
theorem dL_law_486 : decode cL_law 486 = .ok (.iconst 0, 1) := by decide +kernel
theorem dL_law_487 : decode cL_law 487 = .ok (.ireturn, 1) := by decide +kernel
theorem dL_law_488 : decode cL_law 488 = .ok (.aload_n 1, 1) := by decide +kernel
theorem dL_law_489 : decode cL_law 489 = .ok (.aload_n 0, 1) := by decide +kernel
theorem dL_law_490 : decode cL_law 490 = .ok (.iload_n 3, 1) := by decide +kernel
theorem dL_law_491 : decode cL_law 491 = .ok (.iconst 1, 1) := by decide +kernel
theorem dL_law_492 : decode cL_law 492 = .ok (.iadd, 1) := by decide +kernel
theorem dL_law_493 : decode cL_law 493 = .ok (.iaload, 1) := by decide +kernel
theorem dL_law_494 : decode cL_law 494 = .ok (.invokevirtual 73, 3) := by decide +kernel
theorem dL_law_497 : decode cL_law 497 = .ok (.aload_n 2, 1) := by decide +kernel
theorem dL_law_498 : decode cL_law 498 = .ok (.aload_n 0, 1) := by decide +kernel
theorem dL_law_499 : decode cL_law 499 = .ok (.iload_n 3, 1) := by decide +kernel
theorem dL_law_500 : decode cL_law 500 = .ok (.iconst 1, 1) := by decide +kernel
theorem dL_law_501 : decode cL_law 501 = .ok (.iadd, 1) := by decide +kernel
theorem dL_law_502 : decode cL_law 502 = .ok (.iaload, 1) := by decide +kernel
theorem dL_law_503 : decode cL_law 503 = .ok (.invokevirtual 76, 3) := by decide +kernel
theorem dL_law_506 : decode cL_law 506 = .ok (.if_icmp .eq 558, 3) := by decide +kernel
theorem dL_law_509 : decode cL_law 509 = .ok (.iconst 0, 1) := by decide +kernel
theorem dL_law_510 : decode cL_law 510 = .ok (.ireturn, 1) := by decide +kernel
theorem dL_law_511 : decode cL_law 511 = .ok (.aload_n 1, 1) := by decide +kernel
theorem dL_law_512 : decode cL_law 512 = .ok (.aload_n 0, 1) := by decide +kernel
theorem dL_law_513 : decode cL_law 513 = .ok (.iload_n 3, 1) := by decide +kernel
theorem dL_law_514 : decode cL_law 514 = .ok (.iconst 1, 1) := by decide +kernel
theorem dL_law_515 : decode cL_law 515 = .ok (.iadd, 1) := by decide +kernel
theorem dL_law_516 : decode cL_law 516 = .ok (.iaload, 1) := by decide +kernel
theorem dL_law_517 : decode cL_law 517 = .ok (.aload_n 0, 1) := by decide +kernel
theorem dL_law_518 : decode cL_law 518 = .ok (.iload_n 3, 1) := by decide +kernel
theorem dL_law_519 : decode cL_law 519 = .ok (.iconst 2, 1) := by decide +kernel
theorem dL_law_520 : decode cL_law 520 = .ok (.iadd, 1) := by decide +kernel
theorem dL_law_521 : decode cL_law 521 = .ok (.iaload, 1) := by decide +kernel
theorem dL_law_522 : decode cL_law 522 = .ok (.invokevirtual 77, 3) := by decide +kernel
theorem dL_law_525 : decode cL_law 525 = .ok (.aload_n 2, 1) := by decide +kernel
theorem dL_law_526 : decode cL_law 526 = .ok (.aload_n 0, 1) := by decide +kernel
theorem dL_law_527 : decode cL_law 527 = .ok (.iload_n 3, 1) := by decide +kernel
theorem dL_law_528 : decode cL_law 528 = .ok (.iconst 1, 1) := by decide +kernel
theorem dL_law_529 : decode cL_law 529 = .ok (.iadd, 1) := by decide +kernel
theorem dL_law_530 : decode cL_law 530 = .ok (.iaload, 1) := by decide +kernel
theorem dL_law_531 : decode cL_law 531 = .ok (.aload_n 0, 1) := by decide +kernel
theorem dL_law_532 : decode cL_law 532 = .ok (.iload_n 3, 1) := by decide +kernel
theorem dL_law_533 : decode cL_law 533 = .ok (.iconst 2, 1) := by decide +kernel
theorem dL_law_534 : decode cL_law 534 = .ok (.iadd, 1) := by decide +kernel
theorem dL_law_535 : decode cL_law 535 = .ok (.iaload, 1) := by decide +kernel
theorem dL_law_536 : decode cL_law 536 = .ok (.invokevirtual 80, 3) := by decide +kernel
theorem dL_law_539 : decode cL_law 539 = .ok (.if_icmp .eq 525, 3) := by decide +kernel
theorem dL_law_542 : decode cL_law 542 = .ok (.iconst 0, 1) := by decide +kernel
theorem dL_law_543 : decode cL_law 543 = .ok (.ireturn, 1) := by decide +kernel
theorem dL_law_544 : decode cL_law 544 = .ok (.aload_n 1, 1) := by decide +kernel
theorem dL_law_545 : decode cL_law 545 = .ok (.aload_n 0, 1) := by decide +kernel
theorem dL_law_546 : decode cL_law 546 = .ok (.iload_n 3, 1) := by decide +kernel
theorem dL_law_547 : decode cL_law 547 = .ok (.iconst 1, 1) := by decide +kernel
theorem dL_law_548 : decode cL_law 548 = .ok (.iadd, 1) := by decide +kernel
theorem dL_law_549 : decode cL_law 549 = .ok (.iaload, 1) := by decide +kernel
theorem dL_law_550 : decode cL_law 550 = .ok (.aload_n 0, 1) := by decide +kernel
theorem dL_law_551 : decode cL_law 551 = .ok (.iload_n 3, 1) := by decide +kernel
theorem dL_law_552 : decode cL_law 552 = .ok (.iconst 2, 1) := by decide +kernel
theorem dL_law_553 : decode cL_law 553 = .ok (.iadd, 1) := by decide +kernel
theorem dL_law_554 : decode cL_law 554 = .ok (.iaload, 1) := by decide +kernel
theorem dL_law_555 : decode cL_law 555 = .ok (.invokevirtual 81, 3) := by decide +kernel
theorem dL_law_558 : decode cL_law 558 = .ok (.aload_n 2, 1) := by decide +kernel
theorem dL_law_559 : decode cL_law 559 = .ok (.aload_n 0, 1) := by decide +kernel
theorem dL_law_560 : decode cL_law 560 = .ok (.iload_n 3, 1) := by decide +kernel
theorem dL_law_561 : decode cL_law 561 = .ok (.iconst 1, 1) := by decide +kernel
theorem dL_law_562 : decode cL_law 562 = .ok (.iadd, 1) := by decide +kernel
theorem dL_law_563 : decode cL_law 563 = .ok (.iaload, 1) := by decide +kernel
theorem dL_law_564 : decode cL_law 564 = .ok (.aload_n 0, 1) := by decide +kernel
theorem dL_law_565 : decode cL_law 565 = .ok (.iload_n 3, 1) := by decide +kernel
theorem dL_law_566 : decode cL_law 566 = .ok (.iconst 2, 1) := by decide +kernel
theorem dL_law_567 : decode cL_law 567 = .ok (.iadd, 1) := by decide +kernel
theorem dL_law_568 : decode cL_law 568 = .ok (.iaload, 1) := by decide +kernel
theorem dL_law_569 : decode cL_law 569 = .ok (.invokevirtual 84, 3) := by decide +kernel
theorem dL_law_572 : decode cL_law 572 = .ok (.if_icmp .eq 492, 3) := by decide +kernel
theorem dL_law_575 : decode cL_law 575 = .ok (.iconst 0, 1) := by decide +kernel
theorem dL_law_576 : decode cL_law 576 = .ok (.ireturn, 1) := by decide +kernel
theorem dL_law_577 : decode cL_law 577 = .ok (.aload_n 1, 1) := by decide +kernel
theorem dL_law_578 : decode cL_law 578 = .ok (.aload_n 0, 1) := by decide +kernel
theorem dL_law_579 : decode cL_law 579 = .ok (.iload_n 3, 1) := by decide +kernel
theorem dL_law_580 : decode cL_law 580 = .ok (.iconst 1, 1) := by decide +kernel
theorem dL_law_581 : decode cL_law 581 = .ok (.iadd, 1) := by decide +kernel
theorem dL_law_582 : decode cL_law 582 = .ok (.iaload, 1) := by decide +kernel
theorem dL_law_583 : decode cL_law 583 = .ok (.invokevirtual 85, 3) := by decide +kernel
theorem dL_law_586 : decode cL_law 586 = .ok (.aload_n 2, 1) := by decide +kernel
theorem dL_law_587 : decode cL_law 587 = .ok (.aload_n 0, 1) := by decide +kernel
theorem dL_law_588 : decode cL_law 588 = .ok (.iload_n 3, 1) := by decide +kernel
theorem dL_law_589 : decode cL_law 589 = .ok (.iconst 1, 1) := by decide +kernel
theorem dL_law_590 : decode cL_law 590 = .ok (.iadd, 1) := by decide +kernel
theorem dL_law_591 : decode cL_law 591 = .ok (.iaload, 1) := by decide +kernel
theorem dL_law_592 : decode cL_law 592 = .ok (.invokevirtual 88, 3) := by decide +kernel
theorem dL_law_595 : decode cL_law 595 = .ok (.if_icmp .eq 469, 3) := by decide +kernel
theorem dL_law_598 : decode cL_law 598 = .ok (.iconst 0, 1) := by decide +kernel
theorem dL_law_599 : decode cL_law 599 = .ok (.ireturn, 1) := by decide +kernel
theorem dL_law_600 : decode cL_law 600 = .ok (.aload_n 1, 1) := by decide +kernel
theorem dL_law_601 : decode cL_law 601 = .ok (.aload_n 0, 1) := by decide +kernel
theorem dL_law_602 : decode cL_law 602 = .ok (.iload_n 3, 1) := by decide +kernel
theorem dL_law_603 : decode cL_law 603 = .ok (.iconst 1, 1) := by decide +kernel
theorem dL_law_604 : decode cL_law 604 = .ok (.iadd, 1) := by decide +kernel
theorem dL_law_605 : decode cL_law 605 = .ok (.iaload, 1) := by decide +kernel
theorem dL_law_606 : decode cL_law 606 = .ok (.invokevirtual 89, 3) := by decide +kernel
theorem dL_law_609 : decode cL_law 609 = .ok (.aload_n 2, 1) := by decide +kernel
theorem dL_law_610 : decode cL_law 610 = .ok (.aload_n 0, 1) := by decide +kernel
theorem dL_law_611 : decode cL_law 611 = .ok (.iload_n 3, 1) := by decide +kernel
theorem dL_law_612 : decode cL_law 612 = .ok (.iconst 1, 1) := by decide +kernel
theorem dL_law_613 : decode cL_law 613 = .ok (.iadd, 1) := by decide +kernel
theorem dL_law_614 : decode cL_law 614 = .ok (.iaload, 1) := by decide +kernel
theorem dL_law_615 : decode cL_law 615 = .ok (.invokevirtual 92, 3) := by decide +kernel
theorem dL_law_618 : decode cL_law 618 = .ok (.if_icmp .eq 446, 3) := by decide +kernel
theorem dL_law_621 : decode cL_law 621 = .ok (.iconst 0, 1) := by decide +kernel
theorem dL_law_622 : decode cL_law 622 = .ok (.ireturn, 1) := by decide +kernel
theorem dL_law_623 : decode cL_law 623 = .ok (.aload_n 1, 1) := by decide +kernel
theorem dL_law_624 : decode cL_law 624 = .ok (.aload_n 0, 1) := by decide +kernel
theorem dL_law_625 : decode cL_law 625 = .ok (.iload_n 3, 1) := by decide +kernel
theorem dL_law_626 : decode cL_law 626 = .ok (.iconst 1, 1) := by decide +kernel
theorem dL_law_627 : decode cL_law 627 = .ok (.iadd, 1) := by decide +kernel
theorem dL_law_628 : decode cL_law 628 = .ok (.iaload, 1) := by decide +kernel
theorem dL_law_629 : decode cL_law 629 = .ok (.invokevirtual 93, 3) := by decide +kernel
theorem dL_law_632 : decode cL_law 632 = .ok (.aload_n 2, 1) := by decide +kernel
theorem dL_law_633 : decode cL_law 633 = .ok (.aload_n 0, 1) := by decide +kernel
theorem dL_law_634 : decode cL_law 634 = .ok (.iload_n 3, 1) := by decide +kernel
theorem dL_law_635 : decode cL_law 635 = .ok (.iconst 1, 1) := by decide +kernel
theorem dL_law_636 : decode cL_law 636 = .ok (.iadd, 1) := by decide +kernel
theorem dL_law_637 : decode cL_law 637 = .ok (.iaload, 1) := by decide +kernel
theorem dL_law_638 : decode cL_law 638 = .ok (.invokevirtual 96, 3) := by decide +kernel
theorem dL_law_641 : decode cL_law 641 = .ok (.if_icmp .eq 423, 3) := by decide +kernel
theorem dL_law_644 : decode cL_law 644 = .ok (.iconst 0, 1) := by decide +kernel
theorem dL_law_645 : decode cL_law 645 = .ok (.ireturn, 1) := by decide +kernel
theorem dL_law_646 : decode cL_law 646 = .ok (.aload_n 1, 1) := by decide +kernel
theorem dL_law_647 : decode cL_law 647 = .ok (.invokevirtual 97, 3) := by decide +kernel
theorem dL_law_650 : decode cL_law 650 = .ok (.aload_n 2, 1) := by decide +kernel
theorem dL_law_651 : decode cL_law 651 = .ok (.invokevirtual 100, 3) := by decide +kernel
theorem dL_law_654 : decode cL_law 654 = .ok (.if_icmp .eq 410, 3) := by decide +kernel
theorem dL_law_657 : decode cL_law 657 = .ok (.iconst 0, 1) := by decide +kernel
theorem dL_law_658 : decode cL_law 658 = .ok (.ireturn, 1) := by decide +kernel
theorem dL_law_659 : decode cL_law 659 = .ok (.aload_n 1, 1) := by decide +kernel
theorem dL_law_660 : decode cL_law 660 = .ok (.aload_n 0, 1) := by decide +kernel
theorem dL_law_661 : decode cL_law 661 = .ok (.iload_n 3, 1) := by decide +kernel
theorem dL_law_662 : decode cL_law 662 = .ok (.iconst 1, 1) := by decide +kernel
theorem dL_law_663 : decode cL_law 663 = .ok (.iadd, 1) := by decide +kernel
theorem dL_law_664 : decode cL_law 664 = .ok (.iaload, 1) := by decide +kernel
theorem dL_law_665 : decode cL_law 665 = .ok (.aload_n 0, 1) := by decide +kernel
theorem dL_law_666 : decode cL_law 666 = .ok (.iload_n 3, 1) := by decide +kernel
theorem dL_law_667 : decode cL_law 667 = .ok (.iconst 2, 1) := by decide +kernel
theorem dL_law_668 : decode cL_law 668 = .ok (.iadd, 1) := by decide +kernel
theorem dL_law_669 : decode cL_law 669 = .ok (.iaload, 1) := by decide +kernel
theorem dL_law_670 : decode cL_law 670 = .ok (.invokevirtual 101, 3) := by decide +kernel
theorem dL_law_673 : decode cL_law 673 = .ok (.aload_n 2, 1) := by decide +kernel
theorem dL_law_674 : decode cL_law 674 = .ok (.aload_n 0, 1) := by decide +kernel
theorem dL_law_675 : decode cL_law 675 = .ok (.iload_n 3, 1) := by decide +kernel
theorem dL_law_676 : decode cL_law 676 = .ok (.iconst 1, 1) := by decide +kernel
theorem dL_law_677 : decode cL_law 677 = .ok (.iadd, 1) := by decide +kernel
theorem dL_law_678 : decode cL_law 678 = .ok (.iaload, 1) := by decide +kernel
theorem dL_law_679 : decode cL_law 679 = .ok (.aload_n 0, 1) := by decide +kernel
theorem dL_law_680 : decode cL_law 680 = .ok (.iload_n 3, 1) := by decide +kernel
theorem dL_law_681 : decode cL_law 681 = .ok (.iconst 2, 1) := by decide +kernel
theorem dL_law_682 : decode cL_law 682 = .ok (.iadd, 1) := by decide +kernel
theorem dL_law_683 : decode cL_law 683 = .ok (.iaload, 1) := by decide +kernel
theorem dL_law_684 : decode cL_law 684 = .ok (.invokevirtual 104, 3) := by decide +kernel
theorem dL_law_687 : decode cL_law 687 = .ok (.if_icmp .eq 377, 3) := by decide +kernel
theorem dL_law_690 : decode cL_law 690 = .ok (.iconst 0, 1) := by decide +kernel
theorem dL_law_691 : decode cL_law 691 = .ok (.ireturn, 1) := by decide +kernel
theorem dL_law_692 : decode cL_law 692 = .ok (.aload_n 1, 1) := by decide +kernel
theorem dL_law_693 : decode cL_law 693 = .ok (.aload_n 0, 1) := by decide +kernel
theorem dL_law_694 : decode cL_law 694 = .ok (.iload_n 3, 1) := by decide +kernel
theorem dL_law_695 : decode cL_law 695 = .ok (.iconst 1, 1) := by decide +kernel
theorem dL_law_696 : decode cL_law 696 = .ok (.iadd, 1) := by decide +kernel
theorem dL_law_697 : decode cL_law 697 = .ok (.iaload, 1) := by decide +kernel
theorem dL_law_698 : decode cL_law 698 = .ok (.invokevirtual 105, 3) := by decide +kernel
theorem dL_law_701 : decode cL_law 701 = .ok (.aload_n 2, 1) := by decide +kernel
theorem dL_law_702 : decode cL_law 702 = .ok (.aload_n 0, 1) := by decide +kernel
theorem dL_law_703 : decode cL_law 703 = .ok (.iload_n 3, 1) := by decide +kernel
theorem dL_law_704 : decode cL_law 704 = .ok (.iconst 1, 1) := by decide +kernel
theorem dL_law_705 : decode cL_law 705 = .ok (.iadd, 1) := by decide +kernel
theorem dL_law_706 : decode cL_law 706 = .ok (.iaload, 1) := by decide +kernel
theorem dL_law_707 : decode cL_law 707 = .ok (.invokevirtual 108, 3) := by decide +kernel
theorem dL_law_710 : decode cL_law 710 = .ok (.if_icmp .eq 354, 3) := by decide +kernel
theorem dL_law_713 : decode cL_law 713 = .ok (.iconst 0, 1) := by decide +kernel
theorem dL_law_714 : decode cL_law 714 = .ok (.ireturn, 1) := by decide +kernel
theorem dL_law_715 : decode cL_law 715 = .ok (.aload_n 1, 1) := by decide +kernel
theorem dL_law_716 : decode cL_law 716 = .ok (.aload_n 0, 1) := by decide +kernel
theorem dL_law_717 : decode cL_law 717 = .ok (.iload_n 3, 1) := by decide +kernel
theorem dL_law_718 : decode cL_law 718 = .ok (.iconst 1, 1) := by decide +kernel
theorem dL_law_719 : decode cL_law 719 = .ok (.iadd, 1) := by decide +kernel
theorem dL_law_720 : decode cL_law 720 = .ok (.iaload, 1) := by decide +kernel
theorem dL_law_721 : decode cL_law 721 = .ok (.aload_n 0, 1) := by decide +kernel
theorem dL_law_722 : decode cL_law 722 = .ok (.iload_n 3, 1) := by decide +kernel
theorem dL_law_723 : decode cL_law 723 = .ok (.iconst 2, 1) := by decide +kernel
theorem dL_law_724 : decode cL_law 724 = .ok (.iadd, 1) := by decide +kernel
theorem dL_law_725 : decode cL_law 725 = .ok (.iaload, 1) := by decide +kernel
theorem dL_law_726 : decode cL_law 726 = .ok (.aload_n 0, 1) := by decide +kernel
theorem dL_law_727 : decode cL_law 727 = .ok (.iload_n 3, 1) := by decide +kernel
theorem dL_law_728 : decode cL_law 728 = .ok (.iconst 3, 1) := by decide +kernel
theorem dL_law_729 : decode cL_law 729 = .ok (.iadd, 1) := by decide +kernel
theorem dL_law_730 : decode cL_law 730 = .ok (.iaload, 1) := by decide +kernel
theorem dL_law_731 : decode cL_law 731 = .ok (.aload_n 0, 1) := by decide +kernel
theorem dL_law_732 : decode cL_law 732 = .ok (.iload_n 3, 1) := by decide +kernel
theorem dL_law_733 : decode cL_law 733 = .ok (.iconst 4, 1) := by decide +kernel
theorem dL_law_734 : decode cL_law 734 = .ok (.iadd, 1) := by decide +kernel
theorem dL_law_735 : decode cL_law 735 = .ok (.iaload, 1) := by decide +kernel
theorem dL_law_736 : decode cL_law 736 = .ok (.invokevirtual 109, 3) := by decide +kernel
theorem dL_law_739 : decode cL_law 739 = .ok (.aload_n 2, 1) := by decide +kernel
theorem dL_law_740 : decode cL_law 740 = .ok (.aload_n 0, 1) := by decide +kernel
theorem dL_law_741 : decode cL_law 741 = .ok (.iload_n 3, 1) := by decide +kernel
theorem dL_law_742 : decode cL_law 742 = .ok (.iconst 1, 1) := by decide +kernel
theorem dL_law_743 : decode cL_law 743 = .ok (.iadd, 1) := by decide +kernel
theorem dL_law_744 : decode cL_law 744 = .ok (.iaload, 1) := by decide +kernel
theorem dL_law_745 : decode cL_law 745 = .ok (.aload_n 0, 1) := by decide +kernel
theorem dL_law_746 : decode cL_law 746 = .ok (.iload_n 3, 1) := by decide +kernel
theorem dL_law_747 : decode cL_law 747 = .ok (.iconst 2, 1) := by decide +kernel
theorem dL_law_748 : decode cL_law 748 = .ok (.iadd, 1) := by decide +kernel
theorem dL_law_749 : decode cL_law 749 = .ok (.iaload, 1) := by decide +kernel
theorem dL_law_750 : decode cL_law 750 = .ok (.aload_n 0, 1) := by decide +kernel
theorem dL_law_751 : decode cL_law 751 = .ok (.iload_n 3, 1) := by decide +kernel
theorem dL_law_752 : decode cL_law 752 = .ok (.iconst 3, 1) := by decide +kernel
theorem dL_law_753 : decode cL_law 753 = .ok (.iadd, 1) := by decide +kernel
theorem dL_law_754 : decode cL_law 754 = .ok (.iaload, 1) := by decide +kernel
theorem dL_law_755 : decode cL_law 755 = .ok (.aload_n 0, 1) := by decide +kernel
theorem dL_law_756 : decode cL_law 756 = .ok (.iload_n 3, 1) := by decide +kernel
theorem dL_law_757 : decode cL_law 757 = .ok (.iconst 4, 1) := by decide +kernel
theorem dL_law_758 : decode cL_law 758 = .ok (.iadd, 1) := by decide +kernel
theorem dL_law_759 : decode cL_law 759 = .ok (.iaload, 1) := by decide +kernel
theorem dL_law_760 : decode cL_law 760 = .ok (.invokevirtual 113, 3) := by decide +kernel
theorem dL_law_763 : decode cL_law 763 = .ok (.if_icmp .eq 301, 3) := by decide +kernel
theorem dL_law_766 : decode cL_law 766 = .ok (.iconst 0, 1) := by decide +kernel
theorem dL_law_767 : decode cL_law 767 = .ok (.ireturn, 1) := by decide +kernel
theorem dL_law_768 : decode cL_law 768 = .ok (.aload_n 1, 1) := by decide +kernel
theorem dL_law_769 : decode cL_law 769 = .ok (.aload_n 0, 1) := by decide +kernel
theorem dL_law_770 : decode cL_law 770 = .ok (.iload_n 3, 1) := by decide +kernel
theorem dL_law_771 : decode cL_law 771 = .ok (.iconst 1, 1) := by decide +kernel
theorem dL_law_772 : decode cL_law 772 = .ok (.iadd, 1) := by decide +kernel
theorem dL_law_773 : decode cL_law 773 = .ok (.iaload, 1) := by decide +kernel
theorem dL_law_774 : decode cL_law 774 = .ok (.invokevirtual 114, 3) := by decide +kernel
theorem dL_law_777 : decode cL_law 777 = .ok (.aload_n 2, 1) := by decide +kernel
theorem dL_law_778 : decode cL_law 778 = .ok (.aload_n 0, 1) := by decide +kernel
theorem dL_law_779 : decode cL_law 779 = .ok (.iload_n 3, 1) := by decide +kernel
theorem dL_law_780 : decode cL_law 780 = .ok (.iconst 1, 1) := by decide +kernel
theorem dL_law_781 : decode cL_law 781 = .ok (.iadd, 1) := by decide +kernel
theorem dL_law_782 : decode cL_law 782 = .ok (.iaload, 1) := by decide +kernel
theorem dL_law_783 : decode cL_law 783 = .ok (.invokevirtual 117, 3) := by decide +kernel
theorem dL_law_786 : decode cL_law 786 = .ok (.if_icmp .eq 278, 3) := by decide +kernel
theorem dL_law_789 : decode cL_law 789 = .ok (.iconst 0, 1) := by decide +kernel
theorem dL_law_790 : decode cL_law 790 = .ok (.ireturn, 1) := by decide +kernel
theorem dL_law_791 : decode cL_law 791 = .ok (.aload_n 1, 1) := by decide +kernel
theorem dL_law_792 : decode cL_law 792 = .ok (.aload_n 0, 1) := by decide +kernel
theorem dL_law_793 : decode cL_law 793 = .ok (.iload_n 3, 1) := by decide +kernel
theorem dL_law_794 : decode cL_law 794 = .ok (.iconst 1, 1) := by decide +kernel
theorem dL_law_795 : decode cL_law 795 = .ok (.iadd, 1) := by decide +kernel
theorem dL_law_796 : decode cL_law 796 = .ok (.iaload, 1) := by decide +kernel
theorem dL_law_797 : decode cL_law 797 = .ok (.aload_n 0, 1) := by decide +kernel
theorem dL_law_798 : decode cL_law 798 = .ok (.iload_n 3, 1) := by decide +kernel
theorem dL_law_799 : decode cL_law 799 = .ok (.iconst 2, 1) := by decide +kernel
theorem dL_law_800 : decode cL_law 800 = .ok (.iadd, 1) := by decide +kernel
theorem dL_law_801 : decode cL_law 801 = .ok (.iaload, 1) := by decide +kernel
theorem dL_law_802 : decode cL_law 802 = .ok (.aload_n 0, 1) := by decide +kernel
theorem dL_law_803 : decode cL_law 803 = .ok (.iload_n 3, 1) := by decide +kernel
theorem dL_law_804 : decode cL_law 804 = .ok (.iconst 3, 1) := by decide +kernel
theorem dL_law_805 : decode cL_law 805 = .ok (.iadd, 1) := by decide +kernel
theorem dL_law_806 : decode cL_law 806 = .ok (.iaload, 1) := by decide +kernel
theorem dL_law_807 : decode cL_law 807 = .ok (.invokevirtual 118, 3) := by decide +kernel
theorem dL_law_810 : decode cL_law 810 = .ok (.aload_n 2, 1) := by decide +kernel
theorem dL_law_811 : decode cL_law 811 = .ok (.aload_n 0, 1) := by decide +kernel
theorem dL_law_812 : decode cL_law 812 = .ok (.iload_n 3, 1) := by decide +kernel
theorem dL_law_813 : decode cL_law 813 = .ok (.iconst 1, 1) := by decide +kernel
theorem dL_law_814 : decode cL_law 814 = .ok (.iadd, 1) := by decide +kernel
theorem dL_law_815 : decode cL_law 815 = .ok (.iaload, 1) := by decide +kernel
theorem dL_law_816 : decode cL_law 816 = .ok (.aload_n 0, 1) := by decide +kernel
theorem dL_law_817 : decode cL_law 817 = .ok (.iload_n 3, 1) := by decide +kernel
theorem dL_law_818 : decode cL_law 818 = .ok (.iconst 2, 1) := by decide +kernel
theorem dL_law_819 : decode cL_law 819 = .ok (.iadd, 1) := by decide +kernel
theorem dL_law_820 : decode cL_law 820 = .ok (.iaload, 1) := by decide +kernel
theorem dL_law_821 : decode cL_law 821 = .ok (.aload_n 0, 1) := by decide +kernel
theorem dL_law_822 : decode cL_law 822 = .ok (.iload_n 3, 1) := by decide +kernel
theorem dL_law_823 : decode cL_law 823 = .ok (.iconst 3, 1) := by decide +kernel
theorem dL_law_824 : decode cL_law 824 = .ok (.iadd, 1) := by decide +kernel
theorem dL_law_825 : decode cL_law 825 = .ok (.iaload, 1) := by decide +kernel
theorem dL_law_826 : decode cL_law 826 = .ok (.invokevirtual 122, 3) := by decide +kernel
theorem dL_law_829 : decode cL_law 829 = .ok (.if_icmp .eq 235, 3) := by decide +kernel
theorem dL_law_832 : decode cL_law 832 = .ok (.iconst 0, 1) := by decide +kernel
theorem dL_law_833 : decode cL_law 833 = .ok (.ireturn, 1) := by decide +kernel
theorem dL_law_834 : decode cL_law 834 = .ok (.aload_n 1, 1) := by decide +kernel
theorem dL_law_835 : decode cL_law 835 = .ok (.aload_n 0, 1) := by decide +kernel
theorem dL_law_836 : decode cL_law 836 = .ok (.iload_n 3, 1) := by decide +kernel
theorem dL_law_837 : decode cL_law 837 = .ok (.iconst 1, 1) := by decide +kernel
theorem dL_law_838 : decode cL_law 838 = .ok (.iadd, 1) := by decide +kernel
theorem dL_law_839 : decode cL_law 839 = .ok (.iaload, 1) := by decide +kernel
theorem dL_law_840 : decode cL_law 840 = .ok (.aload_n 0, 1) := by decide +kernel
theorem dL_law_841 : decode cL_law 841 = .ok (.iload_n 3, 1) := by decide +kernel
theorem dL_law_842 : decode cL_law 842 = .ok (.iconst 2, 1) := by decide +kernel
theorem dL_law_843 : decode cL_law 843 = .ok (.iadd, 1) := by decide +kernel
theorem dL_law_844 : decode cL_law 844 = .ok (.iaload, 1) := by decide +kernel
theorem dL_law_845 : decode cL_law 845 = .ok (.invokevirtual 123, 3) := by decide +kernel
theorem dL_law_848 : decode cL_law 848 = .ok (.aload_n 2, 1) := by decide +kernel
theorem dL_law_849 : decode cL_law 849 = .ok (.aload_n 0, 1) := by decide +kernel
theorem dL_law_850 : decode cL_law 850 = .ok (.iload_n 3, 1) := by decide +kernel
theorem dL_law_851 : decode cL_law 851 = .ok (.iconst 1, 1) := by decide +kernel
theorem dL_law_852 : decode cL_law 852 = .ok (.iadd, 1) := by decide +kernel
theorem dL_law_853 : decode cL_law 853 = .ok (.iaload, 1) := by decide +kernel
theorem dL_law_854 : decode cL_law 854 = .ok (.aload_n 0, 1) := by decide +kernel
theorem dL_law_855 : decode cL_law 855 = .ok (.iload_n 3, 1) := by decide +kernel
theorem dL_law_856 : decode cL_law 856 = .ok (.iconst 2, 1) := by decide +kernel
theorem dL_law_857 : decode cL_law 857 = .ok (.iadd, 1) := by decide +kernel
theorem dL_law_858 : decode cL_law 858 = .ok (.iaload, 1) := by decide +kernel
theorem dL_law_859 : decode cL_law 859 = .ok (.invokevirtual 126, 3) := by decide +kernel
theorem dL_law_862 : decode cL_law 862 = .ok (.if_icmp .eq 202, 3) := by decide +kernel
theorem dL_law_865 : decode cL_law 865 = .ok (.iconst 0, 1) := by decide +kernel
theorem dL_law_866 : decode cL_law 866 = .ok (.ireturn, 1) := by decide +kernel
theorem dL_law_867 : decode cL_law 867 = .ok (.aload_n 1, 1) := by decide +kernel
theorem dL_law_868 : decode cL_law 868 = .ok (.aload_n 0, 1) := by decide +kernel
theorem dL_law_869 : decode cL_law 869 = .ok (.iload_n 3, 1) := by decide +kernel
theorem dL_law_870 : decode cL_law 870 = .ok (.iconst 1, 1) := by decide +kernel
theorem dL_law_871 : decode cL_law 871 = .ok (.iadd, 1) := by decide +kernel
theorem dL_law_872 : decode cL_law 872 = .ok (.iaload, 1) := by decide +kernel
theorem dL_law_873 : decode cL_law 873 = .ok (.aload_n 0, 1) := by decide +kernel
theorem dL_law_874 : decode cL_law 874 = .ok (.iload_n 3, 1) := by decide +kernel
theorem dL_law_875 : decode cL_law 875 = .ok (.iconst 2, 1) := by decide +kernel
theorem dL_law_876 : decode cL_law 876 = .ok (.iadd, 1) := by decide +kernel
theorem dL_law_877 : decode cL_law 877 = .ok (.iaload, 1) := by decide +kernel
theorem dL_law_878 : decode cL_law 878 = .ok (.invokevirtual 127, 3) := by decide +kernel
theorem dL_law_881 : decode cL_law 881 = .ok (.aload_n 2, 1) := by decide +kernel
theorem dL_law_882 : decode cL_law 882 = .ok (.aload_n 0, 1) := by decide +kernel
theorem dL_law_883 : decode cL_law 883 = .ok (.iload_n 3, 1) := by decide +kernel
theorem dL_law_884 : decode cL_law 884 = .ok (.iconst 1, 1) := by decide +kernel
theorem dL_law_885 : decode cL_law 885 = .ok (.iadd, 1) := by decide +kernel
theorem dL_law_886 : decode cL_law 886 = .ok (.iaload, 1) := by decide +kernel
theorem dL_law_887 : decode cL_law 887 = .ok (.aload_n 0, 1) := by decide +kernel
theorem dL_law_888 : decode cL_law 888 = .ok (.iload_n 3, 1) := by decide +kernel
theorem dL_law_889 : decode cL_law 889 = .ok (.iconst 2, 1) := by decide +kernel
theorem dL_law_890 : decode cL_law 890 = .ok (.iadd, 1) := by decide +kernel
theorem dL_law_891 : decode cL_law 891 = .ok (.iaload, 1) := by decide +kernel
theorem dL_law_892 : decode cL_law 892 = .ok (.invokevirtual 130, 3) := by decide +kernel
theorem dL_law_895 : decode cL_law 895 = .ok (.if_icmp .eq 169, 3) := by decide +kernel
theorem dL_law_898 : decode cL_law 898 = .ok (.iconst 0, 1) := by decide +kernel
theorem dL_law_899 : decode cL_law 899 = .ok (.ireturn, 1) := by decide +kernel
theorem dL_law_900 : decode cL_law 900 = .ok (.aload_n 1, 1) := by decide +kernel
theorem dL_law_901 : decode cL_law 901 = .ok (.aload_n 0, 1) := by decide +kernel
theorem dL_law_902 : decode cL_law 902 = .ok (.iload_n 3, 1) := by decide +kernel
theorem dL_law_903 : decode cL_law 903 = .ok (.iconst 1, 1) := by decide +kernel
theorem dL_law_904 : decode cL_law 904 = .ok (.iadd, 1) := by decide +kernel
theorem dL_law_905 : decode cL_law 905 = .ok (.iaload, 1) := by decide +kernel
theorem dL_law_906 : decode cL_law 906 = .ok (.aload_n 0, 1) := by decide +kernel
theorem dL_law_907 : decode cL_law 907 = .ok (.iload_n 3, 1) := by decide +kernel
theorem dL_law_908 : decode cL_law 908 = .ok (.iconst 2, 1) := by decide +kernel
theorem dL_law_909 : decode cL_law 909 = .ok (.iadd, 1) := by decide +kernel
theorem dL_law_910 : decode cL_law 910 = .ok (.iaload, 1) := by decide +kernel
theorem dL_law_911 : decode cL_law 911 = .ok (.invokevirtual 131, 3) := by decide +kernel
theorem dL_law_914 : decode cL_law 914 = .ok (.aload_n 2, 1) := by decide +kernel
theorem dL_law_915 : decode cL_law 915 = .ok (.aload_n 0, 1) := by decide +kernel
theorem dL_law_916 : decode cL_law 916 = .ok (.iload_n 3, 1) := by decide +kernel
theorem dL_law_917 : decode cL_law 917 = .ok (.iconst 1, 1) := by decide +kernel
theorem dL_law_918 : decode cL_law 918 = .ok (.iadd, 1) := by decide +kernel
theorem dL_law_919 : decode cL_law 919 = .ok (.iaload, 1) := by decide +kernel
theorem dL_law_920 : decode cL_law 920 = .ok (.aload_n 0, 1) := by decide +kernel
theorem dL_law_921 : decode cL_law 921 = .ok (.iload_n 3, 1) := by decide +kernel
theorem dL_law_922 : decode cL_law 922 = .ok (.iconst 2, 1) := by decide +kernel
theorem dL_law_923 : decode cL_law 923 = .ok (.iadd, 1) := by decide +kernel
theorem dL_law_924 : decode cL_law 924 = .ok (.iaload, 1) := by decide +kernel
theorem dL_law_925 : decode cL_law 925 = .ok (.invokevirtual 134, 3) := by decide +kernel
theorem dL_law_928 : decode cL_law 928 = .ok (.if_icmp .eq 136, 3) := by decide +kernel
theorem dL_law_931 : decode cL_law 931 = .ok (.iconst 0, 1) := by decide +kernel
theorem dL_law_932 : decode cL_law 932 = .ok (.ireturn, 1) := by decide +kernel
theorem dL_law_933 : decode cL_law 933 = .ok (.aload_n 1, 1) := by decide +kernel
theorem dL_law_934 : decode cL_law 934 = .ok (.aload_n 0, 1) := by decide +kernel
theorem dL_law_935 : decode cL_law 935 = .ok (.iload_n 3, 1) := by decide +kernel
theorem dL_law_936 : decode cL_law 936 = .ok (.iconst 1, 1) := by decide +kernel
theorem dL_law_937 : decode cL_law 937 = .ok (.iadd, 1) := by decide +kernel
theorem dL_law_938 : decode cL_law 938 = .ok (.iaload, 1) := by decide +kernel
theorem dL_law_939 : decode cL_law 939 = .ok (.aload_n 0, 1) := by decide +kernel
theorem dL_law_940 : decode cL_law 940 = .ok (.iload_n 3, 1) := by decide +kernel
theorem dL_law_941 : decode cL_law 941 = .ok (.iconst 2, 1) := by decide +kernel
theorem dL_law_942 : decode cL_law 942 = .ok (.iadd, 1) := by decide +kernel
theorem dL_law_943 : decode cL_law 943 = .ok (.iaload, 1) := by decide +kernel
theorem dL_law_944 : decode cL_law 944 = .ok (.invokevirtual 135, 3) := by decide +kernel
theorem dL_law_947 : decode cL_law 947 = .ok (.aload_n 2, 1) := by decide +kernel
theorem dL_law_948 : decode cL_law 948 = .ok (.aload_n 0, 1) := by decide +kernel
theorem dL_law_949 : decode cL_law 949 = .ok (.iload_n 3, 1) := by decide +kernel
theorem dL_law_950 : decode cL_law 950 = .ok (.iconst 1, 1) := by decide +kernel
theorem dL_law_951 : decode cL_law 951 = .ok (.iadd, 1) := by decide +kernel
theorem dL_law_952 : decode cL_law 952 = .ok (.iaload, 1) := by decide +kernel
theorem dL_law_953 : decode cL_law 953 = .ok (.aload_n 0, 1) := by decide +kernel
theorem dL_law_954 : decode cL_law 954 = .ok (.iload_n 3, 1) := by decide +kernel
theorem dL_law_955 : decode cL_law 955 = .ok (.iconst 2, 1) := by decide +kernel
theorem dL_law_956 : decode cL_law 956 = .ok (.iadd, 1) := by decide +kernel
theorem dL_law_957 : decode cL_law 957 = .ok (.iaload, 1) := by decide +kernel
theorem dL_law_958 : decode cL_law 958 = .ok (.invokevirtual 138, 3) := by decide +kernel
theorem dL_law_961 : decode cL_law 961 = .ok (.if_icmp .eq 103, 3) := by decide +kernel
theorem dL_law_964 : decode cL_law 964 = .ok (.iconst 0, 1) := by decide +kernel
theorem dL_law_965 : decode cL_law 965 = .ok (.ireturn, 1) := by decide +kernel
theorem dL_law_966 : decode cL_law 966 = .ok (.aload_n 1, 1) := by decide +kernel
theorem dL_law_967 : decode cL_law 967 = .ok (.invokevirtual 139, 3) := by decide +kernel
theorem dL_law_970 : decode cL_law 970 = .ok (.aload_n 2, 1) := by decide +kernel
theorem dL_law_971 : decode cL_law 971 = .ok (.invokevirtual 142, 3) := by decide +kernel
theorem dL_law_974 : decode cL_law 974 = .ok (.if_icmp .eq 90, 3) := by decide +kernel
theorem dL_law_977 : decode cL_law 977 = .ok (.iconst 0, 1) := by decide +kernel
theorem dL_law_978 : decode cL_law 978 = .ok (.ireturn, 1) := by decide +kernel
theorem dL_law_979 : decode cL_law 979 = .ok (.aload_n 1, 1) := by decide +kernel
theorem dL_law_980 : decode cL_law 980 = .ok (.invokevirtual 143, 3) := by decide +kernel
theorem dL_law_983 : decode cL_law 983 = .ok (.aload_n 2, 1) := by decide +kernel
theorem dL_law_984 : decode cL_law 984 = .ok (.invokevirtual 146, 3) := by decide +kernel
theorem dL_law_987 : decode cL_law 987 = .ok (.if_icmp .eq 77, 3) := by decide +kernel
theorem dL_law_990 : decode cL_law 990 = .ok (.iconst 0, 1) := by decide +kernel
theorem dL_law_991 : decode cL_law 991 = .ok (.ireturn, 1) := by decide +kernel
theorem dL_law_992 : decode cL_law 992 = .ok (.aload_n 1, 1) := by decide +kernel
theorem dL_law_993 : decode cL_law 993 = .ok (.invokevirtual 147, 3) := by decide +kernel
theorem dL_law_996 : decode cL_law 996 = .ok (.aload_n 2, 1) := by decide +kernel
theorem dL_law_997 : decode cL_law 997 = .ok (.invokevirtual 150, 3) := by decide +kernel
theorem dL_law_1000 : decode cL_law 1000 = .ok (.if_icmp .eq 64, 3) := by decide +kernel
theorem dL_law_1003 : decode cL_law 1003 = .ok (.iconst 0, 1) := by decide +kernel
theorem dL_law_1004 : decode cL_law 1004 = .ok (.ireturn, 1) := by decide +kernel
theorem dL_law_1005 : decode cL_law 1005 = .ok (.aload_n 1, 1) := by decide +kernel
theorem dL_law_1006 : decode cL_law 1006 = .ok (.aload_n 0, 1) := by decide +kernel
theorem dL_law_1007 : decode cL_law 1007 = .ok (.iload_n 3, 1) := by decide +kernel
theorem dL_law_1008 : decode cL_law 1008 = .ok (.iconst 1, 1) := by decide +kernel
theorem dL_law_1009 : decode cL_law 1009 = .ok (.iadd, 1) := by decide +kernel
theorem dL_law_1010 : decode cL_law 1010 = .ok (.iaload, 1) := by decide +kernel
theorem dL_law_1011 : decode cL_law 1011 = .ok (.invokevirtual 151, 3) := by decide +kernel
theorem dL_law_1014 : decode cL_law 1014 = .ok (.aload_n 2, 1) := by decide +kernel
theorem dL_law_1015 : decode cL_law 1015 = .ok (.aload_n 0, 1) := by decide +kernel
theorem dL_law_1016 : decode cL_law 1016 = .ok (.iload_n 3, 1) := by decide +kernel
theorem dL_law_1017 : decode cL_law 1017 = .ok (.iconst 1, 1) := by decide +kernel
theorem dL_law_1018 : decode cL_law 1018 = .ok (.iadd, 1) := by decide +kernel
theorem dL_law_1019 : decode cL_law 1019 = .ok (.iaload, 1) := by decide +kernel
theorem dL_law_1020 : decode cL_law 1020 = .ok (.invokevirtual 154, 3) := by decide +kernel
theorem dL_law_1023 : decode cL_law 1023 = .ok (.if_icmp .eq 41, 3) := by decide +kernel
theorem dL_law_1026 : decode cL_law 1026 = .ok (.iconst 0, 1) := by decide +kernel
theorem dL_law_1027 : decode cL_law 1027 = .ok (.ireturn, 1) := by decide +kernel
theorem dL_law_1028 : decode cL_law 1028 = .ok (.aload_n 1, 1) := by decide +kernel
theorem dL_law_1029 : decode cL_law 1029 = .ok (.invokevirtual 155, 3) := by decide +kernel
theorem dL_law_1032 : decode cL_law 1032 = .ok (.aload_n 2, 1) := by decide +kernel
theorem dL_law_1033 : decode cL_law 1033 = .ok (.invokevirtual 158, 3) := by decide +kernel
theorem dL_law_1036 : decode cL_law 1036 = .ok (.if_icmp .eq 28, 3) := by decide +kernel
theorem dL_law_1039 : decode cL_law 1039 = .ok (.iconst 0, 1) := by decide +kernel
theorem dL_law_1040 : decode cL_law 1040 = .ok (.ireturn, 1) := by decide +kernel
theorem dL_law_1041 : decode cL_law 1041 = .ok (.aload_n 1, 1) := by decide +kernel
theorem dL_law_1042 : decode cL_law 1042 = .ok (.aload_n 0, 1) := by decide +kernel
theorem dL_law_1043 : decode cL_law 1043 = .ok (.iload_n 3, 1) := by decide +kernel
theorem dL_law_1044 : decode cL_law 1044 = .ok (.iconst 1, 1) := by decide +kernel
theorem dL_law_1045 : decode cL_law 1045 = .ok (.iadd, 1) := by decide +kernel
theorem dL_law_1046 : decode cL_law 1046 = .ok (.iaload, 1) := by decide +kernel
theorem dL_law_1047 : decode cL_law 1047 = .ok (.invokevirtual 159, 3) := by decide +kernel
theorem dL_law_1050 : decode cL_law 1050 = .ok (.aload_n 2, 1) := by decide +kernel
theorem dL_law_1051 : decode cL_law 1051 = .ok (.aload_n 0, 1) := by decide +kernel
theorem dL_law_1052 : decode cL_law 1052 = .ok (.iload_n 3, 1) := by decide +kernel
theorem dL_law_1053 : decode cL_law 1053 = .ok (.iconst 1, 1) := by decide +kernel
theorem dL_law_1054 : decode cL_law 1054 = .ok (.iadd, 1) := by decide +kernel
theorem dL_law_1055 : decode cL_law 1055 = .ok (.iaload, 1) := by decide +kernel
theorem dL_law_1056 : decode cL_law 1056 = .ok (.invokevirtual 162, 3) := by decide +kernel
theorem dL_law_1059 : decode cL_law 1059 = .ok (.if_icmp .eq 5, 3) := by decide +kernel
theorem dL_law_1062 : decode cL_law 1062 = .ok (.iconst 0, 1) := by decide +kernel
theorem dL_law_1063 : decode cL_law 1063 = .ok (.ireturn, 1) := by decide +kernel
theorem dL_law_1064 : decode cL_law 1064 = .ok (.iinc 3 6, 3) := by decide +kernel
theorem dL_law_1067 : decode cL_law 1067 = .ok (.goto (-1039), 3) := by decide +kernel
theorem dL_law_1070 : decode cL_law 1070 = .ok (.iconst 1, 1) := by decide +kernel
theorem dL_law_1071 : decode cL_law 1071 = .ok (.ireturn, 1) := by decide +kernel
end
section
theorem mv_w1 {w : Cond} (i : Nat) (h : tables_1_1[i]? = some w) (g : goodWord w = true) : w ∈ mv_ws := List.mem_filter.mpr ⟨List.mem_append_right _ (List.mem_append_left _ (List.mem_of_getElem? h)), g⟩
theorem mv_w2 {w : Cond} (i : Nat) (h : tables_1_2[i]? = some w) (g : goodWord w = true) : w ∈ mv_ws := List.mem_filter.mpr ⟨List.mem_append_right _ (List.mem_append_right _ (List.mem_append_left _ (List.mem_of_getElem? h))), g⟩
theorem mv_w3 {w : Cond} (i : Nat) (h : tables_1_3[i]? = some w) (g : goodWord w = true) : w ∈ mv_ws := List.mem_filter.mpr ⟨List.mem_append_right _ (List.mem_append_right _ (List.mem_append_right _ (List.mem_append_left _ (List.mem_of_getElem? h)))), g⟩
theorem mv_w4 {w : Cond} (i : Nat) (h : tables_1_4[i]? = some w) (g : goodWord w = true) : w ∈ mv_ws := List.mem_filter.mpr ⟨List.mem_append_right _ (List.mem_append_right _ (List.mem_append_right _ (List.mem_append_right _ (List.mem_append_left _ (List.mem_of_getElem? h))))), g⟩
theorem mv_w5 {w : Cond} (i : Nat) (h : tables_1_5[i]? = some w) (g : goodWord w = true) : w ∈ mv_ws := List.mem_filter.mpr ⟨List.mem_append_right _ (List.mem_append_right _ (List.mem_append_right _ (List.mem_append_right _ (List.mem_append_right _ (List.mem_of_getElem? h))))), g⟩
theorem mv_wq {w : Cond} (j : Nat) {ps : List (MethodName × Nat)} (hs : ∀ q ∈ ps, q ∈ lw_privs) (h : (k2_sels ps)[j]? = some w) (g : goodWord w = true) : w ∈ mv_ws := by
  refine List.mem_filter.mpr ⟨List.mem_append_left _ ?_, g⟩
  obtain ⟨q, hq, he⟩ := List.mem_map.mp (List.mem_of_getElem? h)
  exact List.mem_map.mpr ⟨q, hs q hq, he⟩
theorem mv_wp1 {w : Cond} (j : Nat) (h : (k2_sels lw_privs_1)[j]? = some w) (g : goodWord w = true) : w ∈ mv_ws := mv_wq j (fun _ h => List.mem_append_left _ h) h g
theorem mv_wp2 {w : Cond} (j : Nat) (h : (k2_sels lw_privs_2)[j]? = some w) (g : goodWord w = true) : w ∈ mv_ws := mv_wq j (fun _ h => List.mem_append_right _ (List.mem_append_left _ h)) h g
theorem mv_wp3 {w : Cond} (j : Nat) (h : (k2_sels lw_privs_3)[j]? = some w) (g : goodWord w = true) : w ∈ mv_ws := mv_wq j (fun _ h => List.mem_append_right _ (List.mem_append_right _ (List.mem_append_left _ h))) h g
theorem mv_wp4 {w : Cond} (j : Nat) (h : (k2_sels lw_privs_4)[j]? = some w) (g : goodWord w = true) : w ∈ mv_ws := mv_wq j (fun _ h => List.mem_append_right _ (List.mem_append_right _ (List.mem_append_right _ h))) h g
set_option maxRecDepth 20000 in
theorem q_in_L : Cond.initialized RL ∈ mv_ws := mv_w1 0 rfl rfl
set_option maxRecDepth 20000 in
theorem q_in_X7 : Cond.initialized RX7 ∈ mv_ws := mv_w1 1 rfl rfl
set_option maxRecDepth 20000 in
theorem q_in_X1 : Cond.initialized RX1 ∈ mv_ws := mv_w1 2 rfl rfl
set_option maxRecDepth 20000 in
theorem q_in_X0 : Cond.initialized RX0 ∈ mv_ws := mv_w1 3 rfl rfl
set_option maxRecDepth 20000 in
theorem q_in_X3 : Cond.initialized RX3 ∈ mv_ws := mv_w1 4 rfl rfl
set_option maxRecDepth 20000 in
theorem q_in_J9 : Cond.initialized RJ9 ∈ mv_ws := mv_w1 5 rfl rfl
set_option maxRecDepth 20000 in
theorem q_in_J10 : Cond.initialized RJ10 ∈ mv_ws := mv_w1 6 rfl rfl
set_option maxRecDepth 20000 in
theorem q_in_X2 : Cond.initialized RX2 ∈ mv_ws := mv_w1 7 rfl rfl
set_option maxRecDepth 20000 in
theorem q_in_X4 : Cond.initialized RX4 ∈ mv_ws := mv_w1 8 rfl rfl
set_option maxRecDepth 20000 in
theorem q_in_X5 : Cond.initialized RX5 ∈ mv_ws := mv_w1 9 rfl rfl
set_option maxRecDepth 20000 in
theorem q_in_X6 : Cond.initialized RX6 ∈ mv_ws := mv_w1 10 rfl rfl
set_option maxRecDepth 20000 in
theorem q_in_X8 : Cond.initialized RX8 ∈ mv_ws := mv_w1 11 rfl rfl
set_option maxRecDepth 20000 in
theorem q_in_J7 : Cond.initialized RJ7 ∈ mv_ws := mv_w1 12 rfl rfl
set_option maxRecDepth 20000 in
theorem q_cl_L_7 : Cond.classLink RL 7 RX7 ∈ mv_ws := mv_w1 13 rfl rfl
set_option maxRecDepth 20000 in
theorem q_is_X7 : Cond.instantiable RX7 16 ∈ mv_ws := mv_w1 14 rfl rfl
set_option maxRecDepth 20000 in
theorem q_ml_L_15 : Cond.methodLink RL 15 yX7_init ∈ mv_ws := mv_w1 15 rfl rfl
set_option maxRecDepth 20000 in
theorem q_im_X7_init : Cond.instanceMethod yX7_init ∈ mv_ws := mv_w1 16 rfl rfl
set_option maxRecDepth 20000 in
theorem q_co_X7_init : Cond.code yX7_init cX7_init 3 none ∈ mv_ws := mv_w1 17 rfl rfl
set_option maxRecDepth 20000 in
theorem q_ml_X7_1 : Cond.methodLink RX7 1 objectInit ∈ mv_ws := mv_w1 18 rfl rfl
set_option maxRecDepth 20000 in
theorem q_im_obj_init : Cond.instanceMethod objectInit ∈ mv_ws := mv_w1 19 rfl rfl
set_option maxRecDepth 20000 in
theorem q_co_obj_init : Cond.code objectInit ⟨#[0xb1]⟩ 1 none ∈ mv_ws := mv_w1 20 rfl rfl
set_option maxRecDepth 20000 in
theorem q_cl_X7_7 : Cond.classLink RX7 7 RX1 ∈ mv_ws := mv_w1 21 rfl rfl
set_option maxRecDepth 20000 in
theorem q_is_X1 : Cond.instantiable RX1 4 ∈ mv_ws := mv_w1 22 rfl rfl
set_option maxRecDepth 20000 in
theorem q_im_X1_init : Cond.instanceMethod yX1_init ∈ mv_ws := mv_w1 24 rfl rfl
set_option maxRecDepth 20000 in
theorem q_co_X1_init : Cond.code yX1_init cX1_init 1 none ∈ mv_ws := mv_w1 25 rfl rfl
set_option maxRecDepth 20000 in
theorem q_ml_X1_3 : Cond.methodLink RX1 3 objectInit ∈ mv_ws := mv_w1 26 rfl rfl
set_option maxRecDepth 20000 in
theorem q_cl_X1_9 : Cond.classLink RX1 9 RX0 ∈ mv_ws := mv_w1 27 rfl rfl
set_option maxRecDepth 20000 in
theorem q_is_X0 : Cond.instantiable RX0 2 ∈ mv_ws := mv_w1 28 rfl rfl
set_option maxRecDepth 20000 in
theorem q_ml_X1_13 : Cond.methodLink RX1 13 yX0_init ∈ mv_ws := mv_w1 29 rfl rfl
set_option maxRecDepth 20000 in
theorem q_im_X0_init : Cond.instanceMethod yX0_init ∈ mv_ws := mv_w1 30 rfl rfl
set_option maxRecDepth 20000 in
theorem q_co_X0_init : Cond.code yX0_init cX0_init 2 none ∈ mv_ws := mv_w1 31 rfl rfl
set_option maxRecDepth 20000 in
theorem q_ml_X0_1 : Cond.methodLink RX0 1 objectInit ∈ mv_ws := mv_w1 32 rfl rfl
set_option maxRecDepth 20000 in
theorem q_fl_X0_7 : Cond.fieldLink RX0 7 "MeasuredVault$Bytes" "held" "[B" ∈ mv_ws := mv_w1 33 rfl rfl
set_option maxRecDepth 20000 in
theorem q_fl_X3_56 : Cond.fieldLink RX3 56 "MeasuredVault$Bytes" "held" "[B" ∈ mv_ws := mv_w1 34 rfl rfl
set_option maxRecDepth 20000 in
theorem q_fl_X6_34 : Cond.fieldLink RX6 34 "MeasuredVault$Bytes" "held" "[B" ∈ mv_ws := mv_w1 35 rfl rfl
set_option maxRecDepth 20000 in
theorem q_fl_X7_93 : Cond.fieldLink RX7 93 "MeasuredVault$Bytes" "held" "[B" ∈ mv_ws := mv_w1 36 rfl rfl
set_option maxRecDepth 20000 in
theorem q_fl_X1_31 : Cond.fieldLink RX1 31 "MeasuredVault$Bytes" "size" "I" ∈ mv_ws := mv_w1 37 rfl rfl
set_option maxRecDepth 20000 in
theorem q_fl_X0_13 : Cond.fieldLink RX0 13 "MeasuredVault$Bytes" "size" "I" ∈ mv_ws := mv_w1 38 rfl rfl
set_option maxRecDepth 20000 in
theorem q_fl_X7_89 : Cond.fieldLink RX7 89 "MeasuredVault$Bytes" "size" "I" ∈ mv_ws := mv_w1 39 rfl rfl
set_option maxRecDepth 20000 in
theorem q_fl_X6_28 : Cond.fieldLink RX6 28 "MeasuredVault$Bytes" "size" "I" ∈ mv_ws := mv_w1 40 rfl rfl
set_option maxRecDepth 20000 in
theorem q_fl_X3_59 : Cond.fieldLink RX3 59 "MeasuredVault$Bytes" "size" "I" ∈ mv_ws := mv_w1 41 rfl rfl
set_option maxRecDepth 20000 in
theorem q_ac_byte : Cond.arrayClass .byte ∈ mv_ws := mv_w1 47 rfl rfl
set_option maxRecDepth 20000 in
theorem q_fl_X1_16 : Cond.fieldLink RX1 16 "MeasuredVault$Hasher" "message" "LMeasuredVault$Bytes;" ∈ mv_ws := mv_w1 48 rfl rfl
set_option maxRecDepth 20000 in
theorem q_fl_X1_20 : Cond.fieldLink RX1 20 "MeasuredVault$Hasher" "sum" "[I" ∈ mv_ws := mv_w1 49 rfl rfl
set_option maxRecDepth 20000 in
theorem q_fl_X1_24 : Cond.fieldLink RX1 24 "MeasuredVault$Hasher" "words" "[I" ∈ mv_ws := mv_w1 50 rfl rfl
set_option maxRecDepth 20000 in
theorem q_fl_X1_27 : Cond.fieldLink RX1 27 "MeasuredVault$Hasher" "innerHash" "[B" ∈ mv_ws := mv_w1 51 rfl rfl
set_option maxRecDepth 20000 in
theorem q_ac_int : Cond.arrayClass .int ∈ mv_ws := mv_w1 61 rfl rfl
set_option maxRecDepth 20000 in
theorem q_cl_X7_16 : Cond.classLink RX7 16 RX3 ∈ mv_ws := mv_w1 62 rfl rfl
set_option maxRecDepth 20000 in
theorem q_is_X3 : Cond.instantiable RX3 5 ∈ mv_ws := mv_w1 63 rfl rfl
set_option maxRecDepth 20000 in
theorem q_ml_X7_18 : Cond.methodLink RX7 18 yX3_init ∈ mv_ws := mv_w1 64 rfl rfl
set_option maxRecDepth 20000 in
theorem q_im_X3_init : Cond.instanceMethod yX3_init ∈ mv_ws := mv_w1 65 rfl rfl
set_option maxRecDepth 20000 in
theorem q_co_X3_init : Cond.code yX3_init cX3_init 4 none ∈ mv_ws := mv_w1 66 rfl rfl
set_option maxRecDepth 20000 in
theorem q_ml_X3_3 : Cond.methodLink RX3 3 objectInit ∈ mv_ws := mv_w1 67 rfl rfl
set_option maxRecDepth 20000 in
theorem q_ml_X3_25 : Cond.methodLink RX3 25 yX1_begin ∈ mv_ws := mv_w1 68 rfl rfl
set_option maxRecDepth 20000 in
theorem q_im_X1_begin : Cond.instanceMethod yX1_begin ∈ mv_ws := mv_w1 69 rfl rfl
set_option maxRecDepth 20000 in
theorem q_se_X1_begin : Cond.selects RX1 yX1_begin yX1_begin ∈ mv_ws := mv_w1 70 rfl rfl
set_option maxRecDepth 20000 in
theorem q_co_X1_begin : Cond.code yX1_begin cX1_begin 1 (some (.object "MeasuredVault$Bytes")) ∈ mv_ws := mv_w1 71 rfl rfl
set_option maxRecDepth 20000 in
theorem q_ml_X3_31 : Cond.methodLink RX3 31 yX0_put ∈ mv_ws := mv_w1 72 rfl rfl
set_option maxRecDepth 20000 in
theorem q_im_X0_put : Cond.instanceMethod yX0_put ∈ mv_ws := mv_w1 73 rfl rfl
set_option maxRecDepth 20000 in
theorem q_se_X0_put : Cond.selects RX0 yX0_put yX0_put ∈ mv_ws := mv_w1 74 rfl rfl
set_option maxRecDepth 20000 in
theorem q_co_X0_put : Cond.code yX0_put cX0_put 2 none ∈ mv_ws := mv_w1 75 rfl rfl
set_option maxRecDepth 20000 in
theorem q_ml_X3_37 : Cond.methodLink RX3 37 yX0_putInt ∈ mv_ws := mv_w1 76 rfl rfl
set_option maxRecDepth 20000 in
theorem q_im_X0_putInt : Cond.instanceMethod yX0_putInt ∈ mv_ws := mv_w1 77 rfl rfl
set_option maxRecDepth 20000 in
theorem q_se_X0_putInt : Cond.selects RX0 yX0_putInt yX0_putInt ∈ mv_ws := mv_w1 78 rfl rfl
set_option maxRecDepth 20000 in
theorem q_co_X0_putInt : Cond.code yX0_putInt cX0_putInt 2 none ∈ mv_ws := mv_w1 79 rfl rfl
set_option maxRecDepth 20000 in
theorem q_ml_X0_17 : Cond.methodLink RX0 17 yX0_put ∈ mv_ws := mv_w1 80 rfl rfl
set_option maxRecDepth 20000 in
theorem q_ml_X3_40 : Cond.methodLink RX3 40 yX1_finish ∈ mv_ws := mv_w1 81 rfl rfl
set_option maxRecDepth 20000 in
theorem q_im_X1_finish : Cond.instanceMethod yX1_finish ∈ mv_ws := mv_w1 82 rfl rfl
set_option maxRecDepth 20000 in
theorem q_se_X1_finish : Cond.selects RX1 yX1_finish yX1_finish ∈ mv_ws := mv_w1 83 rfl rfl
set_option maxRecDepth 20000 in
theorem q_co_X1_finish : Cond.code yX1_finish cX1_finish 3 none ∈ mv_ws := mv_w1 84 rfl rfl
set_option maxRecDepth 20000 in
theorem q_ml_X1_46 : Cond.methodLink RX1 46 yX1_padMessage ∈ mv_ws := mv_w1 85 rfl rfl
set_option maxRecDepth 20000 in
theorem q_im_X1_padMessage : Cond.instanceMethod yX1_padMessage ∈ mv_ws := mv_w1 87 rfl rfl
set_option maxRecDepth 20000 in
theorem q_co_X1_padMessage : Cond.code yX1_padMessage cX1_padMessage 4 none ∈ mv_ws := mv_w1 88 rfl rfl
set_option maxRecDepth 20000 in
theorem q_ml_X1_64 : Cond.methodLink RX1 64 yX0_put ∈ mv_ws := mv_w1 89 rfl rfl
set_option maxRecDepth 20000 in
theorem q_ml_X1_67 : Cond.methodLink RX1 67 yJ9_floorMod_7cf53 ∈ mv_ws := mv_w1 90 rfl rfl
set_option maxRecDepth 20000 in
theorem q_st_J9_floorMod_7cf53 : Cond.static yJ9_floorMod_7cf53 ∈ mv_ws := mv_w1 91 rfl rfl
set_option maxRecDepth 20000 in
theorem q_co_J9_floorMod_7cf53 : Cond.code yJ9_floorMod_7cf53 cJ9_floorMod_7cf53 3 (some .int) ∈ mv_ws := mv_w1 92 rfl rfl
set_option maxRecDepth 20000 in
theorem q_fl_X1_49 : Cond.fieldLink RX1 49 "MeasuredVault$Hasher" "START" "[I" ∈ mv_ws := mv_w1 93 rfl rfl
set_option maxRecDepth 20000 in
theorem q_ml_X1_52 : Cond.methodLink RX1 52 arraycopyName ∈ mv_ws := mv_w1 95 rfl rfl
set_option maxRecDepth 20000 in
theorem q_st_arraycopy : Cond.static arraycopyName ∈ mv_ws := mv_w1 96 rfl rfl
set_option maxRecDepth 20000 in
theorem q_na_arraycopy : Cond.native arraycopyName ∈ mv_ws := mv_w1 97 rfl rfl
set_option maxRecDepth 20000 in
theorem q_ml_X1_58 : Cond.methodLink RX1 58 yX1_spreadBlock ∈ mv_ws := mv_w1 98 rfl rfl
set_option maxRecDepth 20000 in
theorem q_im_X1_spreadBlock : Cond.instanceMethod yX1_spreadBlock ∈ mv_ws := mv_w1 100 rfl rfl
set_option maxRecDepth 20000 in
theorem q_co_X1_spreadBlock : Cond.code yX1_spreadBlock cX1_spreadBlock 7 none ∈ mv_ws := mv_w1 101 rfl rfl
set_option maxRecDepth 20000 in
theorem q_ml_X1_73 : Cond.methodLink RX1 73 yX0_intAt ∈ mv_ws := mv_w1 102 rfl rfl
set_option maxRecDepth 20000 in
theorem q_im_X0_intAt : Cond.instanceMethod yX0_intAt ∈ mv_ws := mv_w1 103 rfl rfl
set_option maxRecDepth 20000 in
theorem q_se_X0_intAt : Cond.selects RX0 yX0_intAt yX0_intAt ∈ mv_ws := mv_w1 104 rfl rfl
set_option maxRecDepth 20000 in
theorem q_co_X0_intAt : Cond.code yX0_intAt cX0_intAt 2 (some .int) ∈ mv_ws := mv_w1 105 rfl rfl
set_option maxRecDepth 20000 in
theorem q_ml_X1_61 : Cond.methodLink RX1 61 yX1_mixBlock ∈ mv_ws := mv_w1 106 rfl rfl
set_option maxRecDepth 20000 in
theorem q_im_X1_mixBlock : Cond.instanceMethod yX1_mixBlock ∈ mv_ws := mv_w1 108 rfl rfl
set_option maxRecDepth 20000 in
theorem q_co_X1_mixBlock : Cond.code yX1_mixBlock cX1_mixBlock 14 none ∈ mv_ws := mv_w1 109 rfl rfl
set_option maxRecDepth 20000 in
theorem q_fl_X1_77 : Cond.fieldLink RX1 77 "MeasuredVault$Hasher" "ROUND" "[I" ∈ mv_ws := mv_w1 110 rfl rfl
set_option maxRecDepth 20000 in
theorem q_fl_X3_21 : Cond.fieldLink RX3 21 "MeasuredVault$Secret" "hasher" "LMeasuredVault$Hasher;" ∈ mv_ws := mv_w1 112 rfl rfl
set_option maxRecDepth 20000 in
theorem q_fl_X3_9 : Cond.fieldLink RX3 9 "MeasuredVault$Secret" "seed" "[B" ∈ mv_ws := mv_w1 113 rfl rfl
set_option maxRecDepth 20000 in
theorem q_fl_X3_15 : Cond.fieldLink RX3 15 "MeasuredVault$Secret" "derived" "[B" ∈ mv_ws := mv_w1 114 rfl rfl
set_option maxRecDepth 20000 in
theorem q_fl_X3_18 : Cond.fieldLink RX3 18 "MeasuredVault$Secret" "mark" "[B" ∈ mv_ws := mv_w1 115 rfl rfl
set_option maxRecDepth 20000 in
theorem q_fl_X3_66 : Cond.fieldLink RX3 66 "MeasuredVault$Secret" "blobsMade" "I" ∈ mv_ws := mv_w1 116 rfl rfl
set_option maxRecDepth 20000 in
theorem q_fl_X7_287 : Cond.fieldLink RX7 287 "MeasuredVault$Secret" "blobsMade" "I" ∈ mv_ws := mv_w1 117 rfl rfl
set_option maxRecDepth 20000 in
theorem q_cl_X7_25 : Cond.classLink RX7 25 RX0 ∈ mv_ws := mv_w1 129 rfl rfl
set_option maxRecDepth 20000 in
theorem q_ml_X7_27 : Cond.methodLink RX7 27 yX0_init ∈ mv_ws := mv_w1 130 rfl rfl
set_option maxRecDepth 20000 in
theorem q_cl_X7_50 : Cond.classLink RX7 50 RX2 ∈ mv_ws := mv_w1 131 rfl rfl
set_option maxRecDepth 20000 in
theorem q_is_X2 : Cond.instantiable RX2 3 ∈ mv_ws := mv_w1 132 rfl rfl
set_option maxRecDepth 20000 in
theorem q_im_X2_init : Cond.instanceMethod yX2_init ∈ mv_ws := mv_w1 134 rfl rfl
set_option maxRecDepth 20000 in
theorem q_co_X2_init : Cond.code yX2_init cX2_init 1 none ∈ mv_ws := mv_w1 135 rfl rfl
set_option maxRecDepth 20000 in
theorem q_ml_X2_3 : Cond.methodLink RX2 3 objectInit ∈ mv_ws := mv_w1 136 rfl rfl
set_option maxRecDepth 20000 in
theorem q_fl_X2_11 : Cond.fieldLink RX2 11 "MeasuredVault$Registers" "row" "[B" ∈ mv_ws := mv_w1 137 rfl rfl
set_option maxRecDepth 20000 in
theorem q_fl_X2_15 : Cond.fieldLink RX2 15 "MeasuredVault$Registers" "one" "[B" ∈ mv_ws := mv_w1 138 rfl rfl
set_option maxRecDepth 20000 in
theorem q_fl_X2_40 : Cond.fieldLink RX2 40 "MeasuredVault$Registers" "changes" "I" ∈ mv_ws := mv_w1 139 rfl rfl
set_option maxRecDepth 20000 in
theorem q_fl_X7_152 : Cond.fieldLink RX7 152 "MeasuredVault$Registers" "changes" "I" ∈ mv_ws := mv_w1 140 rfl rfl
set_option maxRecDepth 20000 in
theorem q_cl_X7_57 : Cond.classLink RX7 57 RX4 ∈ mv_ws := mv_w1 148 rfl rfl
set_option maxRecDepth 20000 in
theorem q_is_X4 : Cond.instantiable RX4 8 ∈ mv_ws := mv_w1 150 rfl rfl
set_option maxRecDepth 20000 in
theorem q_im_X4_init : Cond.instanceMethod yX4_init ∈ mv_ws := mv_w1 152 rfl rfl
set_option maxRecDepth 20000 in
theorem q_co_X4_init : Cond.code yX4_init cX4_init 1 none ∈ mv_ws := mv_w1 153 rfl rfl
set_option maxRecDepth 20000 in
theorem q_ml_X4_3 : Cond.methodLink RX4 3 objectInit ∈ mv_ws := mv_w1 154 rfl rfl
set_option maxRecDepth 20000 in
theorem q_fl_X4_9 : Cond.fieldLink RX4 9 "MeasuredVault$Session" "digest" "[B" ∈ mv_ws := mv_w1 155 rfl rfl
set_option maxRecDepth 20000 in
theorem q_fl_X7_146 : Cond.fieldLink RX7 146 "MeasuredVault$Session" "digest" "[B" ∈ mv_ws := mv_w1 156 rfl rfl
set_option maxRecDepth 20000 in
theorem q_fl_X4_21 : Cond.fieldLink RX4 21 "MeasuredVault$Session" "isOpen" "Z" ∈ mv_ws := mv_w1 157 rfl rfl
set_option maxRecDepth 20000 in
theorem q_fl_X7_284 : Cond.fieldLink RX7 284 "MeasuredVault$Session" "isOpen" "Z" ∈ mv_ws := mv_w1 158 rfl rfl
set_option maxRecDepth 20000 in
theorem q_fl_X4_25 : Cond.fieldLink RX4 25 "MeasuredVault$Session" "asksAuth" "Z" ∈ mv_ws := mv_w1 159 rfl rfl
set_option maxRecDepth 20000 in
theorem q_fl_X7_158 : Cond.fieldLink RX7 158 "MeasuredVault$Session" "asksAuth" "Z" ∈ mv_ws := mv_w1 160 rfl rfl
set_option maxRecDepth 20000 in
theorem q_fl_X4_28 : Cond.fieldLink RX4 28 "MeasuredVault$Session" "code" "I" ∈ mv_ws := mv_w1 161 rfl rfl
set_option maxRecDepth 20000 in
theorem q_fl_X7_162 : Cond.fieldLink RX7 162 "MeasuredVault$Session" "code" "I" ∈ mv_ws := mv_w1 162 rfl rfl
set_option maxRecDepth 20000 in
theorem q_fl_X4_32 : Cond.fieldLink RX4 32 "MeasuredVault$Session" "asksRegisters" "Z" ∈ mv_ws := mv_w1 163 rfl rfl
set_option maxRecDepth 20000 in
theorem q_fl_X4_54 : Cond.fieldLink RX4 54 "MeasuredVault$Session" "changesThen" "I" ∈ mv_ws := mv_w1 164 rfl rfl
set_option maxRecDepth 20000 in
theorem q_fl_X4_35 : Cond.fieldLink RX4 35 "MeasuredVault$Session" "asksTime" "Z" ∈ mv_ws := mv_w1 165 rfl rfl
set_option maxRecDepth 20000 in
theorem q_fl_X4_57 : Cond.fieldLink RX4 57 "MeasuredVault$Session" "latest" "I" ∈ mv_ws := mv_w1 166 rfl rfl
set_option maxRecDepth 20000 in
theorem q_cl_X7_64 : Cond.classLink RX7 64 RX5 ∈ mv_ws := mv_w1 184 rfl rfl
set_option maxRecDepth 20000 in
theorem q_is_X5 : Cond.instantiable RX5 4 ∈ mv_ws := mv_w1 186 rfl rfl
set_option maxRecDepth 20000 in
theorem q_ml_X7_70 : Cond.methodLink RX7 70 yX5_init ∈ mv_ws := mv_w1 187 rfl rfl
set_option maxRecDepth 20000 in
theorem q_im_X5_init : Cond.instanceMethod yX5_init ∈ mv_ws := mv_w1 188 rfl rfl
set_option maxRecDepth 20000 in
theorem q_co_X5_init : Cond.code yX5_init cX5_init 2 none ∈ mv_ws := mv_w1 189 rfl rfl
set_option maxRecDepth 20000 in
theorem q_ml_X5_3 : Cond.methodLink RX5 3 objectInit ∈ mv_ws := mv_w1 190 rfl rfl
set_option maxRecDepth 20000 in
theorem q_cl_X5_18 : Cond.classLink RX5 18 RX0 ∈ mv_ws := mv_w1 191 rfl rfl
set_option maxRecDepth 20000 in
theorem q_ml_X5_20 : Cond.methodLink RX5 20 yX0_init ∈ mv_ws := mv_w1 192 rfl rfl
set_option maxRecDepth 20000 in
theorem q_fl_X5_9 : Cond.fieldLink RX5 9 "MeasuredVault$Thing" "auth" "[B" ∈ mv_ws := mv_w1 193 rfl rfl
set_option maxRecDepth 20000 in
theorem q_fl_X7_217 : Cond.fieldLink RX7 217 "MeasuredVault$Thing" "auth" "[B" ∈ mv_ws := mv_w1 194 rfl rfl
set_option maxRecDepth 20000 in
theorem q_fl_X5_15 : Cond.fieldLink RX5 15 "MeasuredVault$Thing" "policy" "[B" ∈ mv_ws := mv_w1 195 rfl rfl
set_option maxRecDepth 20000 in
theorem q_fl_X7_220 : Cond.fieldLink RX7 220 "MeasuredVault$Thing" "policy" "[B" ∈ mv_ws := mv_w1 196 rfl rfl
set_option maxRecDepth 20000 in
theorem q_fl_X5_23 : Cond.fieldLink RX5 23 "MeasuredVault$Thing" "data" "LMeasuredVault$Bytes;" ∈ mv_ws := mv_w1 197 rfl rfl
set_option maxRecDepth 20000 in
theorem q_fl_X6_24 : Cond.fieldLink RX6 24 "MeasuredVault$Thing" "data" "LMeasuredVault$Bytes;" ∈ mv_ws := mv_w1 198 rfl rfl
set_option maxRecDepth 20000 in
theorem q_fl_X7_196 : Cond.fieldLink RX7 196 "MeasuredVault$Thing" "data" "LMeasuredVault$Bytes;" ∈ mv_ws := mv_w1 199 rfl rfl
set_option maxRecDepth 20000 in
theorem q_fl_X6_20 : Cond.fieldLink RX6 20 "MeasuredVault$Thing" "present" "Z" ∈ mv_ws := mv_w1 200 rfl rfl
set_option maxRecDepth 20000 in
theorem q_fl_X7_199 : Cond.fieldLink RX7 199 "MeasuredVault$Thing" "present" "Z" ∈ mv_ws := mv_w1 201 rfl rfl
set_option maxRecDepth 20000 in
theorem q_cl_X7_71 : Cond.classLink RX7 71 RX6 ∈ mv_ws := mv_w1 211 rfl rfl
set_option maxRecDepth 20000 in
theorem q_is_X6 : Cond.instantiable RX6 5 ∈ mv_ws := mv_w1 213 rfl rfl
set_option maxRecDepth 20000 in
theorem q_im_X6_init : Cond.instanceMethod yX6_init ∈ mv_ws := mv_w1 215 rfl rfl
set_option maxRecDepth 20000 in
theorem q_co_X6_init : Cond.code yX6_init cX6_init 1 none ∈ mv_ws := mv_w1 216 rfl rfl
set_option maxRecDepth 20000 in
theorem q_ml_X6_3 : Cond.methodLink RX6 3 objectInit ∈ mv_ws := mv_w1 217 rfl rfl
set_option maxRecDepth 20000 in
theorem q_cl_X6_9 : Cond.classLink RX6 9 RX5 ∈ mv_ws := mv_w1 218 rfl rfl
set_option maxRecDepth 20000 in
theorem q_ml_X6_11 : Cond.methodLink RX6 11 yX5_init ∈ mv_ws := mv_w1 219 rfl rfl
set_option maxRecDepth 20000 in
theorem q_fl_X6_14 : Cond.fieldLink RX6 14 "MeasuredVault$Value" "thing" "LMeasuredVault$Thing;" ∈ mv_ws := mv_w1 220 rfl rfl
set_option maxRecDepth 20000 in
theorem q_fl_X7_206 : Cond.fieldLink RX7 206 "MeasuredVault$Value" "thing" "LMeasuredVault$Thing;" ∈ mv_ws := mv_w1 221 rfl rfl
set_option maxRecDepth 20000 in
theorem q_fl_X6_44 : Cond.fieldLink RX6 44 "MeasuredVault$Value" "kind" "I" ∈ mv_ws := mv_w1 222 rfl rfl
set_option maxRecDepth 20000 in
theorem q_fl_X7_302 : Cond.fieldLink RX7 302 "MeasuredVault$Value" "kind" "I" ∈ mv_ws := mv_w1 223 rfl rfl
set_option maxRecDepth 20000 in
theorem q_fl_X6_47 : Cond.fieldLink RX6 47 "MeasuredVault$Value" "written" "Z" ∈ mv_ws := mv_w1 224 rfl rfl
set_option maxRecDepth 20000 in
theorem q_fl_X7_238 : Cond.fieldLink RX7 238 "MeasuredVault$Value" "written" "Z" ∈ mv_ws := mv_w1 225 rfl rfl
set_option maxRecDepth 20000 in
theorem q_fl_X6_50 : Cond.fieldLink RX6 50 "MeasuredVault$Value" "isShut" "Z" ∈ mv_ws := mv_w1 226 rfl rfl
set_option maxRecDepth 20000 in
theorem q_fl_X7_263 : Cond.fieldLink RX7 263 "MeasuredVault$Value" "isShut" "Z" ∈ mv_ws := mv_w1 227 rfl rfl
set_option maxRecDepth 20000 in
theorem q_fl_X6_53 : Cond.fieldLink RX6 53 "MeasuredVault$Value" "number" "J" ∈ mv_ws := mv_w1 228 rfl rfl
set_option maxRecDepth 20000 in
theorem q_fl_X7_241 : Cond.fieldLink RX7 241 "MeasuredVault$Value" "number" "J" ∈ mv_ws := mv_w1 229 rfl rfl
set_option maxRecDepth 20000 in
theorem q_ml_X7_78 : Cond.methodLink RX7 78 yX7_hashNothing ∈ mv_ws := mv_w2 1 rfl rfl
set_option maxRecDepth 20000 in
theorem q_im_X7_hashNothing : Cond.instanceMethod yX7_hashNothing ∈ mv_ws := mv_w2 3 rfl rfl
set_option maxRecDepth 20000 in
theorem q_co_X7_hashNothing : Cond.code yX7_hashNothing cX7_hashNothing 2 none ∈ mv_ws := mv_w2 4 rfl rfl
set_option maxRecDepth 20000 in
theorem q_ml_X7_299 : Cond.methodLink RX7 299 yX1_begin ∈ mv_ws := mv_w2 5 rfl rfl
set_option maxRecDepth 20000 in
theorem q_ml_X7_149 : Cond.methodLink RX7 149 yX1_finish ∈ mv_ws := mv_w2 6 rfl rfl
set_option maxRecDepth 20000 in
theorem q_fl_X7_10 : Cond.fieldLink RX7 10 "MeasuredVault" "hasher" "LMeasuredVault$Hasher;" ∈ mv_ws := mv_w2 7 rfl rfl
set_option maxRecDepth 20000 in
theorem q_fl_X7_21 : Cond.fieldLink RX7 21 "MeasuredVault" "secret" "LMeasuredVault$Secret;" ∈ mv_ws := mv_w2 8 rfl rfl
set_option maxRecDepth 20000 in
theorem q_fl_X7_30 : Cond.fieldLink RX7 30 "MeasuredVault" "tape" "LMeasuredVault$Bytes;" ∈ mv_ws := mv_w2 9 rfl rfl
set_option maxRecDepth 20000 in
theorem q_fl_X7_34 : Cond.fieldLink RX7 34 "MeasuredVault" "out" "LMeasuredVault$Bytes;" ∈ mv_ws := mv_w2 10 rfl rfl
set_option maxRecDepth 20000 in
theorem q_fl_X7_37 : Cond.fieldLink RX7 37 "MeasuredVault" "theKey" "[B" ∈ mv_ws := mv_w2 11 rfl rfl
set_option maxRecDepth 20000 in
theorem q_fl_X7_41 : Cond.fieldLink RX7 41 "MeasuredVault" "ownerAuth" "[B" ∈ mv_ws := mv_w2 12 rfl rfl
set_option maxRecDepth 20000 in
theorem q_fl_X7_44 : Cond.fieldLink RX7 44 "MeasuredVault" "noPolicy" "[B" ∈ mv_ws := mv_w2 13 rfl rfl
set_option maxRecDepth 20000 in
theorem q_fl_X7_47 : Cond.fieldLink RX7 47 "MeasuredVault" "scratch" "[B" ∈ mv_ws := mv_w2 14 rfl rfl
set_option maxRecDepth 20000 in
theorem q_fl_X7_53 : Cond.fieldLink RX7 53 "MeasuredVault" "registers" "LMeasuredVault$Registers;" ∈ mv_ws := mv_w2 15 rfl rfl
set_option maxRecDepth 20000 in
theorem q_fl_X7_59 : Cond.fieldLink RX7 59 "MeasuredVault" "sessions" "[LMeasuredVault$Session;" ∈ mv_ws := mv_w2 16 rfl rfl
set_option maxRecDepth 20000 in
theorem q_fl_X7_66 : Cond.fieldLink RX7 66 "MeasuredVault" "objects" "[LMeasuredVault$Thing;" ∈ mv_ws := mv_w2 17 rfl rfl
set_option maxRecDepth 20000 in
theorem q_fl_X7_73 : Cond.fieldLink RX7 73 "MeasuredVault" "values" "[LMeasuredVault$Value;" ∈ mv_ws := mv_w2 18 rfl rfl
set_option maxRecDepth 20000 in
theorem q_fl_X7_245 : Cond.fieldLink RX7 245 "MeasuredVault" "greatest" "J" ∈ mv_ws := mv_w2 19 rfl rfl
set_option maxRecDepth 20000 in
theorem q_fl_X7_125 : Cond.fieldLink RX7 125 "MeasuredVault" "clock" "I" ∈ mv_ws := mv_w2 20 rfl rfl
set_option maxRecDepth 20000 in
theorem q_fl_X7_128 : Cond.fieldLink RX7 128 "MeasuredVault" "restarts" "I" ∈ mv_ws := mv_w2 21 rfl rfl
set_option maxRecDepth 20000 in
theorem q_fl_X7_270 : Cond.fieldLink RX7 270 "MeasuredVault" "failures" "I" ∈ mv_ws := mv_w2 22 rfl rfl
set_option maxRecDepth 20000 in
theorem q_ml_L_21 : Cond.methodLink RL 21 yX7_feed ∈ mv_ws := mv_w2 56 rfl rfl
set_option maxRecDepth 20000 in
theorem q_im_X7_feed : Cond.instanceMethod yX7_feed ∈ mv_ws := mv_w2 57 rfl rfl
set_option maxRecDepth 20000 in
theorem q_se_X7_feed : Cond.selects RX7 yX7_feed yX7_feed ∈ mv_ws := mv_w2 58 rfl rfl
set_option maxRecDepth 20000 in
theorem q_co_X7_feed : Cond.code yX7_feed cX7_feed 6 (some .int) ∈ mv_ws := mv_w2 59 rfl rfl
set_option maxRecDepth 20000 in
theorem q_ml_X7_82 : Cond.methodLink RX7 82 yX0_hasRoomFor ∈ mv_ws := mv_w2 60 rfl rfl
set_option maxRecDepth 20000 in
theorem q_im_X0_hasRoomFor : Cond.instanceMethod yX0_hasRoomFor ∈ mv_ws := mv_w2 61 rfl rfl
set_option maxRecDepth 20000 in
theorem q_se_X0_hasRoomFor : Cond.selects RX0 yX0_hasRoomFor yX0_hasRoomFor ∈ mv_ws := mv_w2 62 rfl rfl
set_option maxRecDepth 20000 in
theorem q_co_X0_hasRoomFor : Cond.code yX0_hasRoomFor cX0_hasRoomFor 2 (some .boolean) ∈ mv_ws := mv_w2 63 rfl rfl
set_option maxRecDepth 20000 in
theorem q_ml_X7_86 : Cond.methodLink RX7 86 yX0_putInt ∈ mv_ws := mv_w2 64 rfl rfl
set_option maxRecDepth 20000 in
theorem q_ml_L_26 : Cond.methodLink RL 26 yX7_end ∈ mv_ws := mv_w2 65 rfl rfl
set_option maxRecDepth 20000 in
theorem q_im_X7_end : Cond.instanceMethod yX7_end ∈ mv_ws := mv_w2 66 rfl rfl
set_option maxRecDepth 20000 in
theorem q_se_X7_end : Cond.selects RX7 yX7_end yX7_end ∈ mv_ws := mv_w2 67 rfl rfl
set_option maxRecDepth 20000 in
theorem q_co_X7_end : Cond.code yX7_end cX7_end 2 (some .int) ∈ mv_ws := mv_w2 68 rfl rfl
set_option maxRecDepth 20000 in
theorem q_ml_L_31 : Cond.methodLink RL 31 yX7_octet ∈ mv_ws := mv_w2 69 rfl rfl
set_option maxRecDepth 20000 in
theorem q_im_X7_octet : Cond.instanceMethod yX7_octet ∈ mv_ws := mv_w2 70 rfl rfl
set_option maxRecDepth 20000 in
theorem q_se_X7_octet : Cond.selects RX7 yX7_octet yX7_octet ∈ mv_ws := mv_w2 71 rfl rfl
set_option maxRecDepth 20000 in
theorem q_co_X7_octet : Cond.code yX7_octet cX7_octet 2 (some .int) ∈ mv_ws := mv_w2 72 rfl rfl
set_option maxRecDepth 20000 in
theorem q_ml_L_35 : Cond.methodLink RL 35 yX7_back ∈ mv_ws := mv_w2 73 rfl rfl
set_option maxRecDepth 20000 in
theorem q_im_X7_back : Cond.instanceMethod yX7_back ∈ mv_ws := mv_w2 74 rfl rfl
set_option maxRecDepth 20000 in
theorem q_se_X7_back : Cond.selects RX7 yX7_back yX7_back ∈ mv_ws := mv_w2 75 rfl rfl
set_option maxRecDepth 20000 in
theorem q_co_X7_back : Cond.code yX7_back cX7_back 1 (some .int) ∈ mv_ws := mv_w2 76 rfl rfl
set_option maxRecDepth 20000 in
theorem q_ml_X7_96 : Cond.methodLink RX7 96 yX0_putAll ∈ mv_ws := mv_w2 77 rfl rfl
set_option maxRecDepth 20000 in
theorem q_im_X0_putAll : Cond.instanceMethod yX0_putAll ∈ mv_ws := mv_w2 78 rfl rfl
set_option maxRecDepth 20000 in
theorem q_se_X0_putAll : Cond.selects RX0 yX0_putAll yX0_putAll ∈ mv_ws := mv_w2 79 rfl rfl
set_option maxRecDepth 20000 in
theorem q_co_X0_putAll : Cond.code yX0_putAll cX0_putAll 4 none ∈ mv_ws := mv_w2 80 rfl rfl
set_option maxRecDepth 20000 in
theorem q_ml_X0_21 : Cond.methodLink RX0 21 yJ9_min_7cf53 ∈ mv_ws := mv_w2 81 rfl rfl
set_option maxRecDepth 20000 in
theorem q_st_J9_min_7cf53 : Cond.static yJ9_min_7cf53 ∈ mv_ws := mv_w2 82 rfl rfl
set_option maxRecDepth 20000 in
theorem q_co_J9_min_7cf53 : Cond.code yJ9_min_7cf53 cJ9_min_7cf53 2 (some .int) ∈ mv_ws := mv_w2 83 rfl rfl
set_option maxRecDepth 20000 in
theorem q_ml_X0_27 : Cond.methodLink RX0 27 arraycopyName ∈ mv_ws := mv_w2 84 rfl rfl
set_option maxRecDepth 20000 in
theorem q_ml_L_40 : Cond.methodLink RL 40 yX7_hash ∈ mv_ws := mv_w2 85 rfl rfl
set_option maxRecDepth 20000 in
theorem q_im_X7_hash : Cond.instanceMethod yX7_hash ∈ mv_ws := mv_w2 86 rfl rfl
set_option maxRecDepth 20000 in
theorem q_se_X7_hash : Cond.selects RX7 yX7_hash yX7_hash ∈ mv_ws := mv_w2 87 rfl rfl
set_option maxRecDepth 20000 in
theorem q_co_X7_hash : Cond.code yX7_hash cX7_hash 1 (some .int) ∈ mv_ws := mv_w2 88 rfl rfl
set_option maxRecDepth 20000 in
theorem q_ml_X7_100 : Cond.methodLink RX7 100 yX7_takeTapeHash ∈ mv_ws := mv_w2 89 rfl rfl
set_option maxRecDepth 20000 in
theorem q_im_X7_takeTapeHash : Cond.instanceMethod yX7_takeTapeHash ∈ mv_ws := mv_w2 91 rfl rfl
set_option maxRecDepth 20000 in
theorem q_co_X7_takeTapeHash : Cond.code yX7_takeTapeHash cX7_takeTapeHash 1 none ∈ mv_ws := mv_w2 92 rfl rfl
set_option maxRecDepth 20000 in
theorem q_ml_X7_103 : Cond.methodLink RX7 103 yX7_tell ∈ mv_ws := mv_w2 93 rfl rfl
set_option maxRecDepth 20000 in
theorem q_im_X7_tell : Cond.instanceMethod yX7_tell ∈ mv_ws := mv_w2 95 rfl rfl
set_option maxRecDepth 20000 in
theorem q_co_X7_tell : Cond.code yX7_tell cX7_tell 3 (some .int) ∈ mv_ws := mv_w2 96 rfl rfl
set_option maxRecDepth 20000 in
theorem q_ml_L_44 : Cond.methodLink RL 44 yX7_key ∈ mv_ws := mv_w2 97 rfl rfl
set_option maxRecDepth 20000 in
theorem q_im_X7_key : Cond.instanceMethod yX7_key ∈ mv_ws := mv_w2 98 rfl rfl
set_option maxRecDepth 20000 in
theorem q_se_X7_key : Cond.selects RX7 yX7_key yX7_key ∈ mv_ws := mv_w2 99 rfl rfl
set_option maxRecDepth 20000 in
theorem q_co_X7_key : Cond.code yX7_key cX7_key 1 (some .int) ∈ mv_ws := mv_w2 100 rfl rfl
set_option maxRecDepth 20000 in
theorem q_ml_X7_107 : Cond.methodLink RX7 107 yX7_copyDigest ∈ mv_ws := mv_w2 101 rfl rfl
set_option maxRecDepth 20000 in
theorem q_st_X7_copyDigest : Cond.static yX7_copyDigest ∈ mv_ws := mv_w2 102 rfl rfl
set_option maxRecDepth 20000 in
theorem q_co_X7_copyDigest : Cond.code yX7_copyDigest cX7_copyDigest 2 none ∈ mv_ws := mv_w2 103 rfl rfl
set_option maxRecDepth 20000 in
theorem q_ml_X7_309 : Cond.methodLink RX7 309 arraycopyName ∈ mv_ws := mv_w2 104 rfl rfl
set_option maxRecDepth 20000 in
theorem q_ml_L_48 : Cond.methodLink RL 48 yX7_extend ∈ mv_ws := mv_w2 105 rfl rfl
set_option maxRecDepth 20000 in
theorem q_im_X7_extend : Cond.instanceMethod yX7_extend ∈ mv_ws := mv_w2 106 rfl rfl
set_option maxRecDepth 20000 in
theorem q_se_X7_extend : Cond.selects RX7 yX7_extend yX7_extend ∈ mv_ws := mv_w2 107 rfl rfl
set_option maxRecDepth 20000 in
theorem q_co_X7_extend : Cond.code yX7_extend cX7_extend 2 (some .int) ∈ mv_ws := mv_w2 108 rfl rfl
set_option maxRecDepth 20000 in
theorem q_ml_X7_111 : Cond.methodLink RX7 111 yX2_mixIn ∈ mv_ws := mv_w2 109 rfl rfl
set_option maxRecDepth 20000 in
theorem q_im_X2_mixIn : Cond.instanceMethod yX2_mixIn ∈ mv_ws := mv_w2 110 rfl rfl
set_option maxRecDepth 20000 in
theorem q_se_X2_mixIn : Cond.selects RX2 yX2_mixIn yX2_mixIn ∈ mv_ws := mv_w2 111 rfl rfl
set_option maxRecDepth 20000 in
theorem q_co_X2_mixIn : Cond.code yX2_mixIn cX2_mixIn 5 none ∈ mv_ws := mv_w2 112 rfl rfl
set_option maxRecDepth 20000 in
theorem q_ml_X2_18 : Cond.methodLink RX2 18 arraycopyName ∈ mv_ws := mv_w2 113 rfl rfl
set_option maxRecDepth 20000 in
theorem q_ml_X2_24 : Cond.methodLink RX2 24 yX1_begin ∈ mv_ws := mv_w2 114 rfl rfl
set_option maxRecDepth 20000 in
theorem q_ml_X2_30 : Cond.methodLink RX2 30 yX0_putAll ∈ mv_ws := mv_w2 115 rfl rfl
set_option maxRecDepth 20000 in
theorem q_ml_X2_36 : Cond.methodLink RX2 36 yX1_finish ∈ mv_ws := mv_w2 116 rfl rfl
set_option maxRecDepth 20000 in
theorem q_ml_L_52 : Cond.methodLink RL 52 yX7_reset ∈ mv_ws := mv_w2 117 rfl rfl
set_option maxRecDepth 20000 in
theorem q_im_X7_reset : Cond.instanceMethod yX7_reset ∈ mv_ws := mv_w2 118 rfl rfl
set_option maxRecDepth 20000 in
theorem q_se_X7_reset : Cond.selects RX7 yX7_reset yX7_reset ∈ mv_ws := mv_w2 119 rfl rfl
set_option maxRecDepth 20000 in
theorem q_co_X7_reset : Cond.code yX7_reset cX7_reset 2 (some .int) ∈ mv_ws := mv_w2 120 rfl rfl
set_option maxRecDepth 20000 in
theorem q_ml_X7_115 : Cond.methodLink RX7 115 yX2_zero ∈ mv_ws := mv_w2 121 rfl rfl
set_option maxRecDepth 20000 in
theorem q_im_X2_zero : Cond.instanceMethod yX2_zero ∈ mv_ws := mv_w2 122 rfl rfl
set_option maxRecDepth 20000 in
theorem q_se_X2_zero : Cond.selects RX2 yX2_zero yX2_zero ∈ mv_ws := mv_w2 123 rfl rfl
set_option maxRecDepth 20000 in
theorem q_co_X2_zero : Cond.code yX2_zero cX2_zero 3 none ∈ mv_ws := mv_w2 124 rfl rfl
set_option maxRecDepth 20000 in
theorem q_ml_L_56 : Cond.methodLink RL 56 yX7_state ∈ mv_ws := mv_w2 125 rfl rfl
set_option maxRecDepth 20000 in
theorem q_im_X7_state : Cond.instanceMethod yX7_state ∈ mv_ws := mv_w2 126 rfl rfl
set_option maxRecDepth 20000 in
theorem q_se_X7_state : Cond.selects RX7 yX7_state yX7_state ∈ mv_ws := mv_w2 127 rfl rfl
set_option maxRecDepth 20000 in
theorem q_co_X7_state : Cond.code yX7_state cX7_state 2 (some .int) ∈ mv_ws := mv_w2 128 rfl rfl
set_option maxRecDepth 20000 in
theorem q_ml_X7_118 : Cond.methodLink RX7 118 yX2_measure ∈ mv_ws := mv_w2 129 rfl rfl
set_option maxRecDepth 20000 in
theorem q_im_X2_measure : Cond.instanceMethod yX2_measure ∈ mv_ws := mv_w2 130 rfl rfl
set_option maxRecDepth 20000 in
theorem q_se_X2_measure : Cond.selects RX2 yX2_measure yX2_measure ∈ mv_ws := mv_w2 131 rfl rfl
set_option maxRecDepth 20000 in
theorem q_co_X2_measure : Cond.code yX2_measure cX2_measure 6 none ∈ mv_ws := mv_w2 132 rfl rfl
set_option maxRecDepth 20000 in
theorem q_ml_L_60 : Cond.methodLink RL 60 yX7_quote ∈ mv_ws := mv_w2 133 rfl rfl
set_option maxRecDepth 20000 in
theorem q_im_X7_quote : Cond.instanceMethod yX7_quote ∈ mv_ws := mv_w2 134 rfl rfl
set_option maxRecDepth 20000 in
theorem q_se_X7_quote : Cond.selects RX7 yX7_quote yX7_quote ∈ mv_ws := mv_w2 135 rfl rfl
set_option maxRecDepth 20000 in
theorem q_co_X7_quote : Cond.code yX7_quote cX7_quote 3 (some .int) ∈ mv_ws := mv_w2 136 rfl rfl
set_option maxRecDepth 20000 in
theorem q_ml_X7_122 : Cond.methodLink RX7 122 yX0_put ∈ mv_ws := mv_w2 137 rfl rfl
set_option maxRecDepth 20000 in
theorem q_ml_X7_131 : Cond.methodLink RX7 131 yX3_sign ∈ mv_ws := mv_w2 138 rfl rfl
set_option maxRecDepth 20000 in
theorem q_im_X3_sign : Cond.instanceMethod yX3_sign ∈ mv_ws := mv_w2 139 rfl rfl
set_option maxRecDepth 20000 in
theorem q_se_X3_sign : Cond.selects RX3 yX3_sign yX3_sign ∈ mv_ws := mv_w2 140 rfl rfl
set_option maxRecDepth 20000 in
theorem q_co_X3_sign : Cond.code yX3_sign cX3_sign 2 none ∈ mv_ws := mv_w2 141 rfl rfl
set_option maxRecDepth 20000 in
theorem q_ml_X3_48 : Cond.methodLink RX3 48 yX1_beginKeyed ∈ mv_ws := mv_w2 142 rfl rfl
set_option maxRecDepth 20000 in
theorem q_im_X1_beginKeyed : Cond.instanceMethod yX1_beginKeyed ∈ mv_ws := mv_w2 143 rfl rfl
set_option maxRecDepth 20000 in
theorem q_se_X1_beginKeyed : Cond.selects RX1 yX1_beginKeyed yX1_beginKeyed ∈ mv_ws := mv_w2 144 rfl rfl
set_option maxRecDepth 20000 in
theorem q_co_X1_beginKeyed : Cond.code yX1_beginKeyed cX1_beginKeyed 2 (some (.object "MeasuredVault$Bytes")) ∈ mv_ws := mv_w2 145 rfl rfl
set_option maxRecDepth 20000 in
theorem q_ml_X1_35 : Cond.methodLink RX1 35 yX1_putPad ∈ mv_ws := mv_w2 146 rfl rfl
set_option maxRecDepth 20000 in
theorem q_im_X1_putPad : Cond.instanceMethod yX1_putPad ∈ mv_ws := mv_w2 148 rfl rfl
set_option maxRecDepth 20000 in
theorem q_co_X1_putPad : Cond.code yX1_putPad cX1_putPad 4 none ∈ mv_ws := mv_w2 149 rfl rfl
set_option maxRecDepth 20000 in
theorem q_ml_X3_52 : Cond.methodLink RX3 52 yX1_finishKeyed ∈ mv_ws := mv_w2 150 rfl rfl
set_option maxRecDepth 20000 in
theorem q_im_X1_finishKeyed : Cond.instanceMethod yX1_finishKeyed ∈ mv_ws := mv_w2 151 rfl rfl
set_option maxRecDepth 20000 in
theorem q_se_X1_finishKeyed : Cond.selects RX1 yX1_finishKeyed yX1_finishKeyed ∈ mv_ws := mv_w2 152 rfl rfl
set_option maxRecDepth 20000 in
theorem q_co_X1_finishKeyed : Cond.code yX1_finishKeyed cX1_finishKeyed 3 none ∈ mv_ws := mv_w2 153 rfl rfl
set_option maxRecDepth 20000 in
theorem q_ml_X1_39 : Cond.methodLink RX1 39 yX1_finish ∈ mv_ws := mv_w2 154 rfl rfl
set_option maxRecDepth 20000 in
theorem q_ml_X1_43 : Cond.methodLink RX1 43 yX0_putAll ∈ mv_ws := mv_w2 155 rfl rfl
set_option maxRecDepth 20000 in
theorem q_ml_X3_63 : Cond.methodLink RX3 63 yX3_findMark ∈ mv_ws := mv_w2 156 rfl rfl
set_option maxRecDepth 20000 in
theorem q_im_X3_findMark : Cond.instanceMethod yX3_findMark ∈ mv_ws := mv_w2 158 rfl rfl
set_option maxRecDepth 20000 in
theorem q_co_X3_findMark : Cond.code yX3_findMark cX3_findMark 3 none ∈ mv_ws := mv_w2 159 rfl rfl
set_option maxRecDepth 20000 in
theorem q_ml_X3_44 : Cond.methodLink RX3 44 yX0_putAll ∈ mv_ws := mv_w2 160 rfl rfl
set_option maxRecDepth 20000 in
theorem q_ml_L_64 : Cond.methodLink RL 64 yX7_open ∈ mv_ws := mv_w2 161 rfl rfl
set_option maxRecDepth 20000 in
theorem q_im_X7_open : Cond.instanceMethod yX7_open ∈ mv_ws := mv_w2 162 rfl rfl
set_option maxRecDepth 20000 in
theorem q_se_X7_open : Cond.selects RX7 yX7_open yX7_open ∈ mv_ws := mv_w2 163 rfl rfl
set_option maxRecDepth 20000 in
theorem q_co_X7_open : Cond.code yX7_open cX7_open 2 (some .int) ∈ mv_ws := mv_w2 164 rfl rfl
set_option maxRecDepth 20000 in
theorem q_ml_X7_135 : Cond.methodLink RX7 135 yX4_begin ∈ mv_ws := mv_w2 165 rfl rfl
set_option maxRecDepth 20000 in
theorem q_im_X4_begin : Cond.instanceMethod yX4_begin ∈ mv_ws := mv_w2 166 rfl rfl
set_option maxRecDepth 20000 in
theorem q_se_X4_begin : Cond.selects RX4 yX4_begin yX4_begin ∈ mv_ws := mv_w2 167 rfl rfl
set_option maxRecDepth 20000 in
theorem q_co_X4_begin : Cond.code yX4_begin cX4_begin 1 none ∈ mv_ws := mv_w2 168 rfl rfl
set_option maxRecDepth 20000 in
theorem q_ml_X4_15 : Cond.methodLink RX4 15 yJ7_fill_031fb ∈ mv_ws := mv_w2 169 rfl rfl
set_option maxRecDepth 20000 in
theorem q_st_J7_fill_031fb : Cond.static yJ7_fill_031fb ∈ mv_ws := mv_w2 170 rfl rfl
set_option maxRecDepth 20000 in
theorem q_co_J7_fill_031fb : Cond.code yJ7_fill_031fb cJ7_fill_031fb 4 none ∈ mv_ws := mv_w2 171 rfl rfl
set_option maxRecDepth 20000 in
theorem q_ml_L_68 : Cond.methodLink RL 68 yX7_policyState ∈ mv_ws := mv_w2 172 rfl rfl
set_option maxRecDepth 20000 in
theorem q_im_X7_policyState : Cond.instanceMethod yX7_policyState ∈ mv_ws := mv_w2 173 rfl rfl
set_option maxRecDepth 20000 in
theorem q_se_X7_policyState : Cond.selects RX7 yX7_policyState yX7_policyState ∈ mv_ws := mv_w2 174 rfl rfl
set_option maxRecDepth 20000 in
theorem q_co_X7_policyState : Cond.code yX7_policyState cX7_policyState 5 (some .int) ∈ mv_ws := mv_w2 175 rfl rfl
set_option maxRecDepth 20000 in
theorem q_ml_X7_138 : Cond.methodLink RX7 138 yX7_openSession ∈ mv_ws := mv_w2 176 rfl rfl
set_option maxRecDepth 20000 in
theorem q_im_X7_openSession : Cond.instanceMethod yX7_openSession ∈ mv_ws := mv_w2 178 rfl rfl
set_option maxRecDepth 20000 in
theorem q_co_X7_openSession : Cond.code yX7_openSession cX7_openSession 2 (some (.object "MeasuredVault$Session")) ∈ mv_ws := mv_w2 179 rfl rfl
set_option maxRecDepth 20000 in
theorem q_ml_X7_142 : Cond.methodLink RX7 142 yX4_startStep ∈ mv_ws := mv_w2 180 rfl rfl
set_option maxRecDepth 20000 in
theorem q_im_X4_startStep : Cond.instanceMethod yX4_startStep ∈ mv_ws := mv_w2 181 rfl rfl
set_option maxRecDepth 20000 in
theorem q_se_X4_startStep : Cond.selects RX4 yX4_startStep yX4_startStep ∈ mv_ws := mv_w2 182 rfl rfl
set_option maxRecDepth 20000 in
theorem q_co_X4_startStep : Cond.code yX4_startStep cX4_startStep 4 (some (.object "MeasuredVault$Bytes")) ∈ mv_ws := mv_w2 183 rfl rfl
set_option maxRecDepth 20000 in
theorem q_ml_X4_38 : Cond.methodLink RX4 38 yX1_begin ∈ mv_ws := mv_w2 184 rfl rfl
set_option maxRecDepth 20000 in
theorem q_ml_X4_44 : Cond.methodLink RX4 44 yX0_putAll ∈ mv_ws := mv_w2 185 rfl rfl
set_option maxRecDepth 20000 in
theorem q_ml_X4_50 : Cond.methodLink RX4 50 yX0_put ∈ mv_ws := mv_w2 186 rfl rfl
set_option maxRecDepth 20000 in
theorem q_ml_X7_155 : Cond.methodLink RX7 155 yX4_bindRegisters ∈ mv_ws := mv_w2 187 rfl rfl
set_option maxRecDepth 20000 in
theorem q_im_X4_bindRegisters : Cond.instanceMethod yX4_bindRegisters ∈ mv_ws := mv_w2 188 rfl rfl
set_option maxRecDepth 20000 in
theorem q_se_X4_bindRegisters : Cond.selects RX4 yX4_bindRegisters yX4_bindRegisters ∈ mv_ws := mv_w2 189 rfl rfl
set_option maxRecDepth 20000 in
theorem q_co_X4_bindRegisters : Cond.code yX4_bindRegisters cX4_bindRegisters 2 none ∈ mv_ws := mv_w2 190 rfl rfl
set_option maxRecDepth 20000 in
theorem q_ml_L_73 : Cond.methodLink RL 73 yX7_policyAuth ∈ mv_ws := mv_w2 191 rfl rfl
set_option maxRecDepth 20000 in
theorem q_im_X7_policyAuth : Cond.instanceMethod yX7_policyAuth ∈ mv_ws := mv_w2 192 rfl rfl
set_option maxRecDepth 20000 in
theorem q_se_X7_policyAuth : Cond.selects RX7 yX7_policyAuth yX7_policyAuth ∈ mv_ws := mv_w2 193 rfl rfl
set_option maxRecDepth 20000 in
theorem q_co_X7_policyAuth : Cond.code yX7_policyAuth cX7_policyAuth 3 (some .int) ∈ mv_ws := mv_w2 194 rfl rfl
set_option maxRecDepth 20000 in
theorem q_ml_L_77 : Cond.methodLink RL 77 yX7_policyCode ∈ mv_ws := mv_w2 195 rfl rfl
set_option maxRecDepth 20000 in
theorem q_im_X7_policyCode : Cond.instanceMethod yX7_policyCode ∈ mv_ws := mv_w2 196 rfl rfl
set_option maxRecDepth 20000 in
theorem q_se_X7_policyCode : Cond.selects RX7 yX7_policyCode yX7_policyCode ∈ mv_ws := mv_w2 197 rfl rfl
set_option maxRecDepth 20000 in
theorem q_co_X7_policyCode : Cond.code yX7_policyCode cX7_policyCode 4 (some .int) ∈ mv_ws := mv_w2 198 rfl rfl
set_option maxRecDepth 20000 in
theorem q_ml_L_81 : Cond.methodLink RL 81 yX7_policyTime ∈ mv_ws := mv_w2 199 rfl rfl
set_option maxRecDepth 20000 in
theorem q_im_X7_policyTime : Cond.instanceMethod yX7_policyTime ∈ mv_ws := mv_w2 200 rfl rfl
set_option maxRecDepth 20000 in
theorem q_se_X7_policyTime : Cond.selects RX7 yX7_policyTime yX7_policyTime ∈ mv_ws := mv_w2 201 rfl rfl
set_option maxRecDepth 20000 in
theorem q_co_X7_policyTime : Cond.code yX7_policyTime cX7_policyTime 4 (some .int) ∈ mv_ws := mv_w2 202 rfl rfl
set_option maxRecDepth 20000 in
theorem q_ml_X7_165 : Cond.methodLink RX7 165 yX4_bindTime ∈ mv_ws := mv_w2 203 rfl rfl
set_option maxRecDepth 20000 in
theorem q_im_X4_bindTime : Cond.instanceMethod yX4_bindTime ∈ mv_ws := mv_w2 204 rfl rfl
set_option maxRecDepth 20000 in
theorem q_se_X4_bindTime : Cond.selects RX4 yX4_bindTime yX4_bindTime ∈ mv_ws := mv_w2 205 rfl rfl
set_option maxRecDepth 20000 in
theorem q_co_X4_bindTime : Cond.code yX4_bindTime cX4_bindTime 2 none ∈ mv_ws := mv_w2 206 rfl rfl
set_option maxRecDepth 20000 in
theorem q_ml_X4_60 : Cond.methodLink RX4 60 yJ9_min_7cf53 ∈ mv_ws := mv_w2 207 rfl rfl
set_option maxRecDepth 20000 in
theorem q_ml_L_85 : Cond.methodLink RL 85 yX7_policyOr ∈ mv_ws := mv_w2 208 rfl rfl
set_option maxRecDepth 20000 in
theorem q_im_X7_policyOr : Cond.instanceMethod yX7_policyOr ∈ mv_ws := mv_w2 209 rfl rfl
set_option maxRecDepth 20000 in
theorem q_se_X7_policyOr : Cond.selects RX7 yX7_policyOr yX7_policyOr ∈ mv_ws := mv_w2 210 rfl rfl
set_option maxRecDepth 20000 in
theorem q_co_X7_policyOr : Cond.code yX7_policyOr cX7_policyOr 3 (some .int) ∈ mv_ws := mv_w2 211 rfl rfl
set_option maxRecDepth 20000 in
theorem q_ml_X7_168 : Cond.methodLink RX7 168 yX7_chooseBranch ∈ mv_ws := mv_w2 212 rfl rfl
set_option maxRecDepth 20000 in
theorem q_im_X7_chooseBranch : Cond.instanceMethod yX7_chooseBranch ∈ mv_ws := mv_w2 214 rfl rfl
set_option maxRecDepth 20000 in
theorem q_co_X7_chooseBranch : Cond.code yX7_chooseBranch cX7_chooseBranch 5 (some .int) ∈ mv_ws := mv_w2 215 rfl rfl
set_option maxRecDepth 20000 in
theorem q_ml_X7_305 : Cond.methodLink RX7 305 yX7_sameBytes ∈ mv_ws := mv_w2 216 rfl rfl
set_option maxRecDepth 20000 in
theorem q_st_X7_sameBytes : Cond.static yX7_sameBytes ∈ mv_ws := mv_w2 217 rfl rfl
set_option maxRecDepth 20000 in
theorem q_co_X7_sameBytes : Cond.code yX7_sameBytes cX7_sameBytes 4 (some .boolean) ∈ mv_ws := mv_w2 218 rfl rfl
set_option maxRecDepth 20000 in
theorem q_ml_L_89 : Cond.methodLink RL 89 yX7_digest ∈ mv_ws := mv_w2 219 rfl rfl
set_option maxRecDepth 20000 in
theorem q_im_X7_digest : Cond.instanceMethod yX7_digest ∈ mv_ws := mv_w2 220 rfl rfl
set_option maxRecDepth 20000 in
theorem q_se_X7_digest : Cond.selects RX7 yX7_digest yX7_digest ∈ mv_ws := mv_w2 221 rfl rfl
set_option maxRecDepth 20000 in
theorem q_co_X7_digest : Cond.code yX7_digest cX7_digest 3 (some .int) ∈ mv_ws := mv_w2 222 rfl rfl
set_option maxRecDepth 20000 in
theorem q_ml_L_93 : Cond.methodLink RL 93 yX7_seal ∈ mv_ws := mv_w2 223 rfl rfl
set_option maxRecDepth 20000 in
theorem q_im_X7_seal : Cond.instanceMethod yX7_seal ∈ mv_ws := mv_w2 224 rfl rfl
set_option maxRecDepth 20000 in
theorem q_se_X7_seal : Cond.selects RX7 yX7_seal yX7_seal ∈ mv_ws := mv_w2 225 rfl rfl
set_option maxRecDepth 20000 in
theorem q_co_X7_seal : Cond.code yX7_seal cX7_seal 4 (some .int) ∈ mv_ws := mv_w2 226 rfl rfl
set_option maxRecDepth 20000 in
theorem q_ml_X7_172 : Cond.methodLink RX7 172 yX7_policyFrom ∈ mv_ws := mv_w2 227 rfl rfl
set_option maxRecDepth 20000 in
theorem q_im_X7_policyFrom : Cond.instanceMethod yX7_policyFrom ∈ mv_ws := mv_w2 229 rfl rfl
set_option maxRecDepth 20000 in
theorem q_co_X7_policyFrom : Cond.code yX7_policyFrom cX7_policyFrom 3 (some (.array .byte)) ∈ mv_ws := mv_w2 230 rfl rfl
set_option maxRecDepth 20000 in
theorem q_ml_X7_176 : Cond.methodLink RX7 176 yX3_wrap ∈ mv_ws := mv_w2 231 rfl rfl
set_option maxRecDepth 20000 in
theorem q_im_X3_wrap : Cond.instanceMethod yX3_wrap ∈ mv_ws := mv_w2 232 rfl rfl
set_option maxRecDepth 20000 in
theorem q_se_X3_wrap : Cond.selects RX3 yX3_wrap yX3_wrap ∈ mv_ws := mv_w2 233 rfl rfl
set_option maxRecDepth 20000 in
theorem q_co_X3_wrap : Cond.code yX3_wrap cX3_wrap 5 none ∈ mv_ws := mv_w2 234 rfl rfl
set_option maxRecDepth 20000 in
theorem q_ml_X3_69 : Cond.methodLink RX3 69 yX3_derive ∈ mv_ws := mv_w2 235 rfl rfl
set_option maxRecDepth 20000 in
theorem q_im_X3_derive : Cond.instanceMethod yX3_derive ∈ mv_ws := mv_w2 237 rfl rfl
set_option maxRecDepth 20000 in
theorem q_co_X3_derive : Cond.code yX3_derive cX3_derive 4 none ∈ mv_ws := mv_w2 238 rfl rfl
set_option maxRecDepth 20000 in
theorem q_ml_X3_73 : Cond.methodLink RX3 73 yX3_cover ∈ mv_ws := mv_w2 239 rfl rfl
set_option maxRecDepth 20000 in
theorem q_im_X3_cover : Cond.instanceMethod yX3_cover ∈ mv_ws := mv_w3 1 rfl rfl
set_option maxRecDepth 20000 in
theorem q_co_X3_cover : Cond.code yX3_cover cX3_cover 6 none ∈ mv_ws := mv_w3 2 rfl rfl
set_option maxRecDepth 20000 in
theorem q_ml_L_97 : Cond.methodLink RL 97 yX7_load ∈ mv_ws := mv_w3 3 rfl rfl
set_option maxRecDepth 20000 in
theorem q_im_X7_load : Cond.instanceMethod yX7_load ∈ mv_ws := mv_w3 4 rfl rfl
set_option maxRecDepth 20000 in
theorem q_se_X7_load : Cond.selects RX7 yX7_load yX7_load ∈ mv_ws := mv_w3 5 rfl rfl
set_option maxRecDepth 20000 in
theorem q_co_X7_load : Cond.code yX7_load cX7_load 2 (some .int) ∈ mv_ws := mv_w3 6 rfl rfl
set_option maxRecDepth 20000 in
theorem q_ml_X7_180 : Cond.methodLink RX7 180 yX3_unwrap ∈ mv_ws := mv_w3 7 rfl rfl
set_option maxRecDepth 20000 in
theorem q_im_X3_unwrap : Cond.instanceMethod yX3_unwrap ∈ mv_ws := mv_w3 8 rfl rfl
set_option maxRecDepth 20000 in
theorem q_se_X3_unwrap : Cond.selects RX3 yX3_unwrap yX3_unwrap ∈ mv_ws := mv_w3 9 rfl rfl
set_option maxRecDepth 20000 in
theorem q_co_X3_unwrap : Cond.code yX3_unwrap cX3_unwrap 5 (some .boolean) ∈ mv_ws := mv_w3 10 rfl rfl
set_option maxRecDepth 20000 in
theorem q_ml_X3_76 : Cond.methodLink RX3 76 yX0_intAt ∈ mv_ws := mv_w3 11 rfl rfl
set_option maxRecDepth 20000 in
theorem q_ml_X7_184 : Cond.methodLink RX7 184 yX7_keepUnwrapped ∈ mv_ws := mv_w3 13 rfl rfl
set_option maxRecDepth 20000 in
theorem q_im_X7_keepUnwrapped : Cond.instanceMethod yX7_keepUnwrapped ∈ mv_ws := mv_w3 15 rfl rfl
set_option maxRecDepth 20000 in
theorem q_co_X7_keepUnwrapped : Cond.code yX7_keepUnwrapped cX7_keepUnwrapped 3 (some .int) ∈ mv_ws := mv_w3 16 rfl rfl
set_option maxRecDepth 20000 in
theorem q_ml_L_101 : Cond.methodLink RL 101 yX7_unseal ∈ mv_ws := mv_w3 17 rfl rfl
set_option maxRecDepth 20000 in
theorem q_im_X7_unseal : Cond.instanceMethod yX7_unseal ∈ mv_ws := mv_w3 18 rfl rfl
set_option maxRecDepth 20000 in
theorem q_se_X7_unseal : Cond.selects RX7 yX7_unseal yX7_unseal ∈ mv_ws := mv_w3 19 rfl rfl
set_option maxRecDepth 20000 in
theorem q_co_X7_unseal : Cond.code yX7_unseal cX7_unseal 5 (some .int) ∈ mv_ws := mv_w3 20 rfl rfl
set_option maxRecDepth 20000 in
theorem q_ml_X7_188 : Cond.methodLink RX7 188 yX7_objectAt ∈ mv_ws := mv_w3 21 rfl rfl
set_option maxRecDepth 20000 in
theorem q_im_X7_objectAt : Cond.instanceMethod yX7_objectAt ∈ mv_ws := mv_w3 23 rfl rfl
set_option maxRecDepth 20000 in
theorem q_co_X7_objectAt : Cond.code yX7_objectAt cX7_objectAt 2 (some (.object "MeasuredVault$Thing")) ∈ mv_ws := mv_w3 24 rfl rfl
set_option maxRecDepth 20000 in
theorem q_ml_X7_192 : Cond.methodLink RX7 192 yX7_ask ∈ mv_ws := mv_w3 25 rfl rfl
set_option maxRecDepth 20000 in
theorem q_im_X7_ask : Cond.instanceMethod yX7_ask ∈ mv_ws := mv_w3 27 rfl rfl
set_option maxRecDepth 20000 in
theorem q_co_X7_ask : Cond.code yX7_ask cX7_ask 6 (some .int) ∈ mv_ws := mv_w3 28 rfl rfl
set_option maxRecDepth 20000 in
theorem q_ml_X7_210 : Cond.methodLink RX7 210 yX7_askKey ∈ mv_ws := mv_w3 29 rfl rfl
set_option maxRecDepth 20000 in
theorem q_im_X7_askKey : Cond.instanceMethod yX7_askKey ∈ mv_ws := mv_w3 31 rfl rfl
set_option maxRecDepth 20000 in
theorem q_co_X7_askKey : Cond.code yX7_askKey cX7_askKey 2 (some .int) ∈ mv_ws := mv_w3 32 rfl rfl
set_option maxRecDepth 20000 in
theorem q_ml_X7_266 : Cond.methodLink RX7 266 yX7_sameDigest ∈ mv_ws := mv_w3 33 rfl rfl
set_option maxRecDepth 20000 in
theorem q_st_X7_sameDigest : Cond.static yX7_sameDigest ∈ mv_ws := mv_w3 34 rfl rfl
set_option maxRecDepth 20000 in
theorem q_co_X7_sameDigest : Cond.code yX7_sameDigest cX7_sameDigest 2 (some .boolean) ∈ mv_ws := mv_w3 35 rfl rfl
set_option maxRecDepth 20000 in
theorem q_ml_X7_315 : Cond.methodLink RX7 315 yX4_holds ∈ mv_ws := mv_w3 36 rfl rfl
set_option maxRecDepth 20000 in
theorem q_im_X4_holds : Cond.instanceMethod yX4_holds ∈ mv_ws := mv_w3 37 rfl rfl
set_option maxRecDepth 20000 in
theorem q_se_X4_holds : Cond.selects RX4 yX4_holds yX4_holds ∈ mv_ws := mv_w3 38 rfl rfl
set_option maxRecDepth 20000 in
theorem q_co_X4_holds : Cond.code yX4_holds cX4_holds 4 (some .boolean) ∈ mv_ws := mv_w3 39 rfl rfl
set_option maxRecDepth 20000 in
theorem q_ml_L_105 : Cond.methodLink RL 105 yX7_flush ∈ mv_ws := mv_w3 40 rfl rfl
set_option maxRecDepth 20000 in
theorem q_im_X7_flush : Cond.instanceMethod yX7_flush ∈ mv_ws := mv_w3 41 rfl rfl
set_option maxRecDepth 20000 in
theorem q_se_X7_flush : Cond.selects RX7 yX7_flush yX7_flush ∈ mv_ws := mv_w3 42 rfl rfl
set_option maxRecDepth 20000 in
theorem q_co_X7_flush : Cond.code yX7_flush cX7_flush 3 (some .int) ∈ mv_ws := mv_w3 43 rfl rfl
set_option maxRecDepth 20000 in
theorem q_ml_L_109 : Cond.methodLink RL 109 yX7_define ∈ mv_ws := mv_w3 44 rfl rfl
set_option maxRecDepth 20000 in
theorem q_im_X7_define : Cond.instanceMethod yX7_define ∈ mv_ws := mv_w3 45 rfl rfl
set_option maxRecDepth 20000 in
theorem q_se_X7_define : Cond.selects RX7 yX7_define yX7_define ∈ mv_ws := mv_w3 46 rfl rfl
set_option maxRecDepth 20000 in
theorem q_co_X7_define : Cond.code yX7_define cX7_define 7 (some .int) ∈ mv_ws := mv_w3 47 rfl rfl
set_option maxRecDepth 20000 in
theorem q_ml_X7_202 : Cond.methodLink RX7 202 yX6_mayBe ∈ mv_ws := mv_w3 48 rfl rfl
set_option maxRecDepth 20000 in
theorem q_st_X6_mayBe : Cond.static yX6_mayBe ∈ mv_ws := mv_w3 49 rfl rfl
set_option maxRecDepth 20000 in
theorem q_co_X6_mayBe : Cond.code yX6_mayBe cX6_mayBe 2 (some .boolean) ∈ mv_ws := mv_w3 50 rfl rfl
set_option maxRecDepth 20000 in
theorem q_ml_X7_214 : Cond.methodLink RX7 214 yX6_begin ∈ mv_ws := mv_w3 51 rfl rfl
set_option maxRecDepth 20000 in
theorem q_im_X6_begin : Cond.instanceMethod yX6_begin ∈ mv_ws := mv_w3 52 rfl rfl
set_option maxRecDepth 20000 in
theorem q_se_X6_begin : Cond.selects RX6 yX6_begin yX6_begin ∈ mv_ws := mv_w3 53 rfl rfl
set_option maxRecDepth 20000 in
theorem q_co_X6_begin : Cond.code yX6_begin cX6_begin 3 none ∈ mv_ws := mv_w3 54 rfl rfl
set_option maxRecDepth 20000 in
theorem q_ml_X6_38 : Cond.methodLink RX6 38 yJ7_fill_031fb ∈ mv_ws := mv_w3 55 rfl rfl
set_option maxRecDepth 20000 in
theorem q_ml_L_114 : Cond.methodLink RL 114 yX7_undefine ∈ mv_ws := mv_w3 56 rfl rfl
set_option maxRecDepth 20000 in
theorem q_im_X7_undefine : Cond.instanceMethod yX7_undefine ∈ mv_ws := mv_w3 57 rfl rfl
set_option maxRecDepth 20000 in
theorem q_se_X7_undefine : Cond.selects RX7 yX7_undefine yX7_undefine ∈ mv_ws := mv_w3 58 rfl rfl
set_option maxRecDepth 20000 in
theorem q_co_X7_undefine : Cond.code yX7_undefine cX7_undefine 4 (some .int) ∈ mv_ws := mv_w3 59 rfl rfl
set_option maxRecDepth 20000 in
theorem q_ml_X7_223 : Cond.methodLink RX7 223 yX7_valueAt ∈ mv_ws := mv_w3 60 rfl rfl
set_option maxRecDepth 20000 in
theorem q_im_X7_valueAt : Cond.instanceMethod yX7_valueAt ∈ mv_ws := mv_w3 62 rfl rfl
set_option maxRecDepth 20000 in
theorem q_co_X7_valueAt : Cond.code yX7_valueAt cX7_valueAt 2 (some (.object "MeasuredVault$Value")) ∈ mv_ws := mv_w3 63 rfl rfl
set_option maxRecDepth 20000 in
theorem q_ml_L_118 : Cond.methodLink RL 118 yX7_write ∈ mv_ws := mv_w3 64 rfl rfl
set_option maxRecDepth 20000 in
theorem q_im_X7_write : Cond.instanceMethod yX7_write ∈ mv_ws := mv_w3 65 rfl rfl
set_option maxRecDepth 20000 in
theorem q_se_X7_write : Cond.selects RX7 yX7_write yX7_write ∈ mv_ws := mv_w3 66 rfl rfl
set_option maxRecDepth 20000 in
theorem q_co_X7_write : Cond.code yX7_write cX7_write 5 (some .int) ∈ mv_ws := mv_w3 67 rfl rfl
set_option maxRecDepth 20000 in
theorem q_ml_X7_227 : Cond.methodLink RX7 227 yX7_valueOf ∈ mv_ws := mv_w3 68 rfl rfl
set_option maxRecDepth 20000 in
theorem q_im_X7_valueOf : Cond.instanceMethod yX7_valueOf ∈ mv_ws := mv_w3 70 rfl rfl
set_option maxRecDepth 20000 in
theorem q_co_X7_valueOf : Cond.code yX7_valueOf cX7_valueOf 4 (some (.object "MeasuredVault$Value")) ∈ mv_ws := mv_w3 71 rfl rfl
set_option maxRecDepth 20000 in
theorem q_ml_X7_231 : Cond.methodLink RX7 231 yX7_writeTape ∈ mv_ws := mv_w3 72 rfl rfl
set_option maxRecDepth 20000 in
theorem q_im_X7_writeTape : Cond.instanceMethod yX7_writeTape ∈ mv_ws := mv_w3 74 rfl rfl
set_option maxRecDepth 20000 in
theorem q_co_X7_writeTape : Cond.code yX7_writeTape cX7_writeTape 6 (some .int) ∈ mv_ws := mv_w3 75 rfl rfl
set_option maxRecDepth 20000 in
theorem q_ml_X7_235 : Cond.methodLink RX7 235 yX7_askToChange ∈ mv_ws := mv_w3 76 rfl rfl
set_option maxRecDepth 20000 in
theorem q_im_X7_askToChange : Cond.instanceMethod yX7_askToChange ∈ mv_ws := mv_w3 78 rfl rfl
set_option maxRecDepth 20000 in
theorem q_co_X7_askToChange : Cond.code yX7_askToChange cX7_askToChange 4 (some .int) ∈ mv_ws := mv_w3 79 rfl rfl
set_option maxRecDepth 20000 in
theorem q_ml_L_123 : Cond.methodLink RL 123 yX7_count ∈ mv_ws := mv_w3 80 rfl rfl
set_option maxRecDepth 20000 in
theorem q_im_X7_count : Cond.instanceMethod yX7_count ∈ mv_ws := mv_w3 81 rfl rfl
set_option maxRecDepth 20000 in
theorem q_se_X7_count : Cond.selects RX7 yX7_count yX7_count ∈ mv_ws := mv_w3 82 rfl rfl
set_option maxRecDepth 20000 in
theorem q_co_X7_count : Cond.code yX7_count cX7_count 5 (some .int) ∈ mv_ws := mv_w3 83 rfl rfl
set_option maxRecDepth 20000 in
theorem q_ml_X7_248 : Cond.methodLink RX7 248 yX6_spellNumber ∈ mv_ws := mv_w3 84 rfl rfl
set_option maxRecDepth 20000 in
theorem q_im_X6_spellNumber : Cond.instanceMethod yX6_spellNumber ∈ mv_ws := mv_w3 85 rfl rfl
set_option maxRecDepth 20000 in
theorem q_se_X6_spellNumber : Cond.selects RX6 yX6_spellNumber yX6_spellNumber ∈ mv_ws := mv_w3 86 rfl rfl
set_option maxRecDepth 20000 in
theorem q_co_X6_spellNumber : Cond.code yX6_spellNumber cX6_spellNumber 1 none ∈ mv_ws := mv_w3 87 rfl rfl
set_option maxRecDepth 20000 in
theorem q_ml_X6_57 : Cond.methodLink RX6 57 yX0_putInt ∈ mv_ws := mv_w3 88 rfl rfl
set_option maxRecDepth 20000 in
theorem q_ml_X7_251 : Cond.methodLink RX7 251 yJ9_max_f86c9 ∈ mv_ws := mv_w3 89 rfl rfl
set_option maxRecDepth 20000 in
theorem q_st_J9_max_f86c9 : Cond.static yJ9_max_f86c9 ∈ mv_ws := mv_w3 90 rfl rfl
set_option maxRecDepth 20000 in
theorem q_co_J9_max_f86c9 : Cond.code yJ9_max_f86c9 cJ9_max_f86c9 4 (some .long) ∈ mv_ws := mv_w3 91 rfl rfl
set_option maxRecDepth 20000 in
theorem q_k_X7_257 : Cond.constantLong RX7 257 2147483647 ∈ mv_ws := mv_w3 92 rfl rfl
set_option maxRecDepth 20000 in
theorem q_ml_L_127 : Cond.methodLink RL 127 yX7_chain ∈ mv_ws := mv_w3 93 rfl rfl
set_option maxRecDepth 20000 in
theorem q_im_X7_chain : Cond.instanceMethod yX7_chain ∈ mv_ws := mv_w3 94 rfl rfl
set_option maxRecDepth 20000 in
theorem q_se_X7_chain : Cond.selects RX7 yX7_chain yX7_chain ∈ mv_ws := mv_w3 95 rfl rfl
set_option maxRecDepth 20000 in
theorem q_co_X7_chain : Cond.code yX7_chain cX7_chain 4 (some .int) ∈ mv_ws := mv_w3 96 rfl rfl
set_option maxRecDepth 20000 in
theorem q_ml_X7_259 : Cond.methodLink RX7 259 yX7_chainTape ∈ mv_ws := mv_w3 97 rfl rfl
set_option maxRecDepth 20000 in
theorem q_im_X7_chainTape : Cond.instanceMethod yX7_chainTape ∈ mv_ws := mv_w3 99 rfl rfl
set_option maxRecDepth 20000 in
theorem q_co_X7_chainTape : Cond.code yX7_chainTape cX7_chainTape 6 (some .int) ∈ mv_ws := mv_w3 100 rfl rfl
set_option maxRecDepth 20000 in
theorem q_ml_L_131 : Cond.methodLink RL 131 yX7_read ∈ mv_ws := mv_w3 101 rfl rfl
set_option maxRecDepth 20000 in
theorem q_im_X7_read : Cond.instanceMethod yX7_read ∈ mv_ws := mv_w3 102 rfl rfl
set_option maxRecDepth 20000 in
theorem q_se_X7_read : Cond.selects RX7 yX7_read yX7_read ∈ mv_ws := mv_w3 103 rfl rfl
set_option maxRecDepth 20000 in
theorem q_co_X7_read : Cond.code yX7_read cX7_read 5 (some .int) ∈ mv_ws := mv_w3 104 rfl rfl
set_option maxRecDepth 20000 in
theorem q_ml_L_135 : Cond.methodLink RL 135 yX7_shut ∈ mv_ws := mv_w3 105 rfl rfl
set_option maxRecDepth 20000 in
theorem q_im_X7_shut : Cond.instanceMethod yX7_shut ∈ mv_ws := mv_w3 106 rfl rfl
set_option maxRecDepth 20000 in
theorem q_se_X7_shut : Cond.selects RX7 yX7_shut yX7_shut ∈ mv_ws := mv_w3 107 rfl rfl
set_option maxRecDepth 20000 in
theorem q_co_X7_shut : Cond.code yX7_shut cX7_shut 5 (some .int) ∈ mv_ws := mv_w3 108 rfl rfl
set_option maxRecDepth 20000 in
theorem q_ml_L_139 : Cond.methodLink RL 139 yX7_own ∈ mv_ws := mv_w3 109 rfl rfl
set_option maxRecDepth 20000 in
theorem q_im_X7_own : Cond.instanceMethod yX7_own ∈ mv_ws := mv_w3 110 rfl rfl
set_option maxRecDepth 20000 in
theorem q_se_X7_own : Cond.selects RX7 yX7_own yX7_own ∈ mv_ws := mv_w3 111 rfl rfl
set_option maxRecDepth 20000 in
theorem q_co_X7_own : Cond.code yX7_own cX7_own 2 (some .int) ∈ mv_ws := mv_w3 112 rfl rfl
set_option maxRecDepth 20000 in
theorem q_ml_L_143 : Cond.methodLink RL 143 yX7_unlock ∈ mv_ws := mv_w3 113 rfl rfl
set_option maxRecDepth 20000 in
theorem q_im_X7_unlock : Cond.instanceMethod yX7_unlock ∈ mv_ws := mv_w3 114 rfl rfl
set_option maxRecDepth 20000 in
theorem q_se_X7_unlock : Cond.selects RX7 yX7_unlock yX7_unlock ∈ mv_ws := mv_w3 115 rfl rfl
set_option maxRecDepth 20000 in
theorem q_co_X7_unlock : Cond.code yX7_unlock cX7_unlock 1 (some .int) ∈ mv_ws := mv_w3 116 rfl rfl
set_option maxRecDepth 20000 in
theorem q_ml_L_147 : Cond.methodLink RL 147 yX7_clear ∈ mv_ws := mv_w3 117 rfl rfl
set_option maxRecDepth 20000 in
theorem q_im_X7_clear : Cond.instanceMethod yX7_clear ∈ mv_ws := mv_w3 118 rfl rfl
set_option maxRecDepth 20000 in
theorem q_se_X7_clear : Cond.selects RX7 yX7_clear yX7_clear ∈ mv_ws := mv_w3 119 rfl rfl
set_option maxRecDepth 20000 in
theorem q_co_X7_clear : Cond.code yX7_clear cX7_clear 3 (some .int) ∈ mv_ws := mv_w3 120 rfl rfl
set_option maxRecDepth 20000 in
theorem q_ml_X7_273 : Cond.methodLink RX7 273 yX3_renew ∈ mv_ws := mv_w3 121 rfl rfl
set_option maxRecDepth 20000 in
theorem q_im_X3_renew : Cond.instanceMethod yX3_renew ∈ mv_ws := mv_w3 122 rfl rfl
set_option maxRecDepth 20000 in
theorem q_se_X3_renew : Cond.selects RX3 yX3_renew yX3_renew ∈ mv_ws := mv_w3 123 rfl rfl
set_option maxRecDepth 20000 in
theorem q_co_X3_renew : Cond.code yX3_renew cX3_renew 1 none ∈ mv_ws := mv_w3 124 rfl rfl
set_option maxRecDepth 20000 in
theorem q_ml_X7_276 : Cond.methodLink RX7 276 yX7_freeObjects ∈ mv_ws := mv_w3 125 rfl rfl
set_option maxRecDepth 20000 in
theorem q_im_X7_freeObjects : Cond.instanceMethod yX7_freeObjects ∈ mv_ws := mv_w3 127 rfl rfl
set_option maxRecDepth 20000 in
theorem q_co_X7_freeObjects : Cond.code yX7_freeObjects cX7_freeObjects 2 none ∈ mv_ws := mv_w3 128 rfl rfl
set_option maxRecDepth 20000 in
theorem q_ml_L_151 : Cond.methodLink RL 151 yX7_tick ∈ mv_ws := mv_w3 129 rfl rfl
set_option maxRecDepth 20000 in
theorem q_im_X7_tick : Cond.instanceMethod yX7_tick ∈ mv_ws := mv_w3 130 rfl rfl
set_option maxRecDepth 20000 in
theorem q_se_X7_tick : Cond.selects RX7 yX7_tick yX7_tick ∈ mv_ws := mv_w3 131 rfl rfl
set_option maxRecDepth 20000 in
theorem q_co_X7_tick : Cond.code yX7_tick cX7_tick 4 (some .int) ∈ mv_ws := mv_w3 132 rfl rfl
set_option maxRecDepth 20000 in
theorem q_k_X7_279 : Cond.constant RX7 279 100000 ∈ mv_ws := mv_w3 133 rfl rfl
set_option maxRecDepth 20000 in
theorem q_k_X7_280 : Cond.constant RX7 280 2000000000 ∈ mv_ws := mv_w3 134 rfl rfl
set_option maxRecDepth 20000 in
theorem q_ml_X7_281 : Cond.methodLink RX7 281 yJ9_max_7cf53 ∈ mv_ws := mv_w3 135 rfl rfl
set_option maxRecDepth 20000 in
theorem q_st_J9_max_7cf53 : Cond.static yJ9_max_7cf53 ∈ mv_ws := mv_w3 136 rfl rfl
set_option maxRecDepth 20000 in
theorem q_co_J9_max_7cf53 : Cond.code yJ9_max_7cf53 cJ9_max_7cf53 2 (some .int) ∈ mv_ws := mv_w3 137 rfl rfl
set_option maxRecDepth 20000 in
theorem q_ml_L_155 : Cond.methodLink RL 155 yX7_restart ∈ mv_ws := mv_w3 138 rfl rfl
set_option maxRecDepth 20000 in
theorem q_im_X7_restart : Cond.instanceMethod yX7_restart ∈ mv_ws := mv_w3 139 rfl rfl
set_option maxRecDepth 20000 in
theorem q_se_X7_restart : Cond.selects RX7 yX7_restart yX7_restart ∈ mv_ws := mv_w3 140 rfl rfl
set_option maxRecDepth 20000 in
theorem q_co_X7_restart : Cond.code yX7_restart cX7_restart 2 (some .int) ∈ mv_ws := mv_w3 141 rfl rfl
set_option maxRecDepth 20000 in
theorem q_ml_L_159 : Cond.methodLink RL 159 yX7_look ∈ mv_ws := mv_w3 142 rfl rfl
set_option maxRecDepth 20000 in
theorem q_im_X7_look : Cond.instanceMethod yX7_look ∈ mv_ws := mv_w3 143 rfl rfl
set_option maxRecDepth 20000 in
theorem q_se_X7_look : Cond.selects RX7 yX7_look yX7_look ∈ mv_ws := mv_w3 144 rfl rfl
set_option maxRecDepth 20000 in
theorem q_co_X7_look : Cond.code yX7_look cX7_look 2 (some .int) ∈ mv_ws := mv_w3 145 rfl rfl
set_option maxRecDepth 20000 in
theorem q_ml_X7_290 : Cond.methodLink RX7 290 yX7_objectsHeld ∈ mv_ws := mv_w3 146 rfl rfl
set_option maxRecDepth 20000 in
theorem q_im_X7_objectsHeld : Cond.instanceMethod yX7_objectsHeld ∈ mv_ws := mv_w3 148 rfl rfl
set_option maxRecDepth 20000 in
theorem q_co_X7_objectsHeld : Cond.code yX7_objectsHeld cX7_objectsHeld 3 (some .int) ∈ mv_ws := mv_w3 149 rfl rfl
set_option maxRecDepth 20000 in
theorem q_ml_X7_293 : Cond.methodLink RX7 293 yX7_sessionsOpen ∈ mv_ws := mv_w3 150 rfl rfl
set_option maxRecDepth 20000 in
theorem q_im_X7_sessionsOpen : Cond.instanceMethod yX7_sessionsOpen ∈ mv_ws := mv_w3 152 rfl rfl
set_option maxRecDepth 20000 in
theorem q_co_X7_sessionsOpen : Cond.code yX7_sessionsOpen cX7_sessionsOpen 3 (some .int) ∈ mv_ws := mv_w3 153 rfl rfl
set_option maxRecDepth 20000 in
theorem q_ml_X7_296 : Cond.methodLink RX7 296 yX7_valuesDefined ∈ mv_ws := mv_w3 154 rfl rfl
set_option maxRecDepth 20000 in
theorem q_im_X7_valuesDefined : Cond.instanceMethod yX7_valuesDefined ∈ mv_ws := mv_w3 156 rfl rfl
set_option maxRecDepth 20000 in
theorem q_co_X7_valuesDefined : Cond.code yX7_valuesDefined cX7_valuesDefined 3 (some .int) ∈ mv_ws := mv_w3 157 rfl rfl
set_option maxRecDepth 20000 in
theorem q_ml_L_9 : Cond.methodLink RL 9 yL_cell ∈ mv_ws := mv_w3 158 rfl rfl
set_option maxRecDepth 20000 in
theorem q_st_L_cell : Cond.static yL_cell ∈ mv_ws := mv_w3 159 rfl rfl
set_option maxRecDepth 20000 in
theorem q_co_L_cell : Cond.code yL_cell cL_cell 2 (some .int) ∈ mv_ws := mv_w3 160 rfl rfl
set_option maxRecDepth 20000 in
theorem q_cl_L_18 : Cond.classLink RL 18 RX8 ∈ mv_ws := mv_w3 161 rfl rfl
set_option maxRecDepth 20000 in
theorem q_is_X8 : Cond.instantiable RX8 38 ∈ mv_ws := mv_w3 162 rfl rfl
set_option maxRecDepth 20000 in
theorem q_ml_L_20 : Cond.methodLink RL 20 yX8_init ∈ mv_ws := mv_w3 163 rfl rfl
set_option maxRecDepth 20000 in
theorem q_im_X8_init : Cond.instanceMethod yX8_init ∈ mv_ws := mv_w3 164 rfl rfl
set_option maxRecDepth 20000 in
theorem q_co_X8_init : Cond.code yX8_init cX8_init 2 none ∈ mv_ws := mv_w3 165 rfl rfl
set_option maxRecDepth 20000 in
theorem q_ml_X8_1 : Cond.methodLink RX8 1 objectInit ∈ mv_ws := mv_w3 166 rfl rfl
set_option maxRecDepth 20000 in
theorem q_ml_X8_104 : Cond.methodLink RX8 104 yX8_add ∈ mv_ws := mv_w3 167 rfl rfl
set_option maxRecDepth 20000 in
theorem q_im_X8_add : Cond.instanceMethod yX8_add ∈ mv_ws := mv_w3 169 rfl rfl
set_option maxRecDepth 20000 in
theorem q_co_X8_add : Cond.code yX8_add cX8_add 2 none ∈ mv_ws := mv_w3 170 rfl rfl
set_option maxRecDepth 20000 in
theorem q_ml_X8_108 : Cond.methodLink RX8 108 yX8_word ∈ mv_ws := mv_w3 171 rfl rfl
set_option maxRecDepth 20000 in
theorem q_im_X8_word : Cond.instanceMethod yX8_word ∈ mv_ws := mv_w3 173 rfl rfl
set_option maxRecDepth 20000 in
theorem q_co_X8_word : Cond.code yX8_word cX8_word 3 none ∈ mv_ws := mv_w3 174 rfl rfl
set_option maxRecDepth 20000 in
theorem q_ml_X8_111 : Cond.methodLink RX8 111 yX8_hashTo ∈ mv_ws := mv_w3 175 rfl rfl
set_option maxRecDepth 20000 in
theorem q_im_X8_hashTo : Cond.instanceMethod yX8_hashTo ∈ mv_ws := mv_w3 177 rfl rfl
set_option maxRecDepth 20000 in
theorem q_co_X8_hashTo : Cond.code yX8_hashTo cX8_hashTo 5 none ∈ mv_ws := mv_w3 178 rfl rfl
set_option maxRecDepth 20000 in
theorem q_fl_X8_124 : Cond.fieldLink RX8 124 "MeasuredVaultModel" "BEGIN" "[I" ∈ mv_ws := mv_w3 179 rfl rfl
set_option maxRecDepth 20000 in
theorem q_k_X8_115 : Cond.constantLong RX8 115 4294967295 ∈ mv_ws := mv_w3 181 rfl rfl
set_option maxRecDepth 20000 in
theorem q_ml_X8_127 : Cond.methodLink RX8 127 yX8_block ∈ mv_ws := mv_w3 182 rfl rfl
set_option maxRecDepth 20000 in
theorem q_im_X8_block : Cond.instanceMethod yX8_block ∈ mv_ws := mv_w3 184 rfl rfl
set_option maxRecDepth 20000 in
theorem q_co_X8_block : Cond.code yX8_block cX8_block 25 none ∈ mv_ws := mv_w3 185 rfl rfl
set_option maxRecDepth 20000 in
theorem q_ml_X8_117 : Cond.methodLink RX8 117 yX8_turn ∈ mv_ws := mv_w3 186 rfl rfl
set_option maxRecDepth 20000 in
theorem q_st_X8_turn : Cond.static yX8_turn ∈ mv_ws := mv_w3 187 rfl rfl
set_option maxRecDepth 20000 in
theorem q_co_X8_turn : Cond.code yX8_turn cX8_turn 3 (some .long) ∈ mv_ws := mv_w3 188 rfl rfl
set_option maxRecDepth 20000 in
theorem q_fl_X8_121 : Cond.fieldLink RX8 121 "MeasuredVaultModel" "ROUND" "[I" ∈ mv_ws := mv_w3 189 rfl rfl
set_option maxRecDepth 20000 in
theorem q_fl_X8_9 : Cond.fieldLink RX8 9 "MeasuredVaultModel" "tape" "[B" ∈ mv_ws := mv_w3 191 rfl rfl
set_option maxRecDepth 20000 in
theorem q_fl_X8_137 : Cond.fieldLink RX8 137 "MeasuredVaultModel" "tapeLength" "I" ∈ mv_ws := mv_w3 192 rfl rfl
set_option maxRecDepth 20000 in
theorem q_fl_X8_13 : Cond.fieldLink RX8 13 "MeasuredVaultModel" "out" "[B" ∈ mv_ws := mv_w3 193 rfl rfl
set_option maxRecDepth 20000 in
theorem q_fl_X8_143 : Cond.fieldLink RX8 143 "MeasuredVaultModel" "outCount" "I" ∈ mv_ws := mv_w3 194 rfl rfl
set_option maxRecDepth 20000 in
theorem q_fl_X8_16 : Cond.fieldLink RX8 16 "MeasuredVaultModel" "row" "[B" ∈ mv_ws := mv_w3 195 rfl rfl
set_option maxRecDepth 20000 in
theorem q_fl_X8_100 : Cond.fieldLink RX8 100 "MeasuredVaultModel" "rowCount" "I" ∈ mv_ws := mv_w3 196 rfl rfl
set_option maxRecDepth 20000 in
theorem q_fl_X8_19 : Cond.fieldLink RX8 19 "MeasuredVaultModel" "h" "[J" ∈ mv_ws := mv_w3 197 rfl rfl
set_option maxRecDepth 20000 in
theorem q_fl_X8_23 : Cond.fieldLink RX8 23 "MeasuredVaultModel" "w" "[J" ∈ mv_ws := mv_w3 198 rfl rfl
set_option maxRecDepth 20000 in
theorem q_fl_X8_26 : Cond.fieldLink RX8 26 "MeasuredVaultModel" "one" "[B" ∈ mv_ws := mv_w3 199 rfl rfl
set_option maxRecDepth 20000 in
theorem q_fl_X8_29 : Cond.fieldLink RX8 29 "MeasuredVaultModel" "macKey" "[B" ∈ mv_ws := mv_w3 200 rfl rfl
set_option maxRecDepth 20000 in
theorem q_fl_X8_32 : Cond.fieldLink RX8 32 "MeasuredVaultModel" "macText" "[B" ∈ mv_ws := mv_w3 201 rfl rfl
set_option maxRecDepth 20000 in
theorem q_fl_X8_131 : Cond.fieldLink RX8 131 "MeasuredVaultModel" "macCount" "I" ∈ mv_ws := mv_w3 202 rfl rfl
set_option maxRecDepth 20000 in
theorem q_fl_X8_35 : Cond.fieldLink RX8 35 "MeasuredVaultModel" "seed" "[B" ∈ mv_ws := mv_w3 203 rfl rfl
set_option maxRecDepth 20000 in
theorem q_fl_X8_38 : Cond.fieldLink RX8 38 "MeasuredVaultModel" "keyNow" "[B" ∈ mv_ws := mv_w3 204 rfl rfl
set_option maxRecDepth 20000 in
theorem q_fl_X8_41 : Cond.fieldLink RX8 41 "MeasuredVaultModel" "owner" "[B" ∈ mv_ws := mv_w3 205 rfl rfl
set_option maxRecDepth 20000 in
theorem q_fl_X8_44 : Cond.fieldLink RX8 44 "MeasuredVaultModel" "register" "[B" ∈ mv_ws := mv_w3 206 rfl rfl
set_option maxRecDepth 20000 in
theorem q_fl_X8_163 : Cond.fieldLink RX8 163 "MeasuredVaultModel" "clock" "I" ∈ mv_ws := mv_w3 207 rfl rfl
set_option maxRecDepth 20000 in
theorem q_fl_X8_169 : Cond.fieldLink RX8 169 "MeasuredVaultModel" "restarts" "I" ∈ mv_ws := mv_w3 208 rfl rfl
set_option maxRecDepth 20000 in
theorem q_fl_X8_193 : Cond.fieldLink RX8 193 "MeasuredVaultModel" "failures" "I" ∈ mv_ws := mv_w3 209 rfl rfl
set_option maxRecDepth 20000 in
theorem q_fl_X8_203 : Cond.fieldLink RX8 203 "MeasuredVaultModel" "blobs" "I" ∈ mv_ws := mv_w3 210 rfl rfl
set_option maxRecDepth 20000 in
theorem q_fl_X8_232 : Cond.fieldLink RX8 232 "MeasuredVaultModel" "greatest" "J" ∈ mv_ws := mv_w3 211 rfl rfl
set_option maxRecDepth 20000 in
theorem q_fl_X8_47 : Cond.fieldLink RX8 47 "MeasuredVaultModel" "open" "[Z" ∈ mv_ws := mv_w3 212 rfl rfl
set_option maxRecDepth 20000 in
theorem q_fl_X8_51 : Cond.fieldLink RX8 51 "MeasuredVaultModel" "digest" "[B" ∈ mv_ws := mv_w3 213 rfl rfl
set_option maxRecDepth 20000 in
theorem q_fl_X8_54 : Cond.fieldLink RX8 54 "MeasuredVaultModel" "ofRegisters" "[Z" ∈ mv_ws := mv_w3 214 rfl rfl
set_option maxRecDepth 20000 in
theorem q_fl_X8_57 : Cond.fieldLink RX8 57 "MeasuredVaultModel" "changed" "[Z" ∈ mv_ws := mv_w3 215 rfl rfl
set_option maxRecDepth 20000 in
theorem q_fl_X8_60 : Cond.fieldLink RX8 60 "MeasuredVaultModel" "ofAuth" "[Z" ∈ mv_ws := mv_w3 216 rfl rfl
set_option maxRecDepth 20000 in
theorem q_fl_X8_63 : Cond.fieldLink RX8 63 "MeasuredVaultModel" "ofTime" "[Z" ∈ mv_ws := mv_w3 217 rfl rfl
set_option maxRecDepth 20000 in
theorem q_fl_X8_66 : Cond.fieldLink RX8 66 "MeasuredVaultModel" "code" "[I" ∈ mv_ws := mv_w3 218 rfl rfl
set_option maxRecDepth 20000 in
theorem q_fl_X8_70 : Cond.fieldLink RX8 70 "MeasuredVaultModel" "time" "[I" ∈ mv_ws := mv_w3 219 rfl rfl
set_option maxRecDepth 20000 in
theorem q_fl_X8_73 : Cond.fieldLink RX8 73 "MeasuredVaultModel" "there" "[Z" ∈ mv_ws := mv_w3 220 rfl rfl
set_option maxRecDepth 20000 in
theorem q_fl_X8_76 : Cond.fieldLink RX8 76 "MeasuredVaultModel" "auth" "[B" ∈ mv_ws := mv_w3 221 rfl rfl
set_option maxRecDepth 20000 in
theorem q_fl_X8_79 : Cond.fieldLink RX8 79 "MeasuredVaultModel" "policy" "[B" ∈ mv_ws := mv_w3 222 rfl rfl
set_option maxRecDepth 20000 in
theorem q_fl_X8_82 : Cond.fieldLink RX8 82 "MeasuredVaultModel" "data" "[B" ∈ mv_ws := mv_w3 223 rfl rfl
set_option maxRecDepth 20000 in
theorem q_fl_X8_85 : Cond.fieldLink RX8 85 "MeasuredVaultModel" "size" "[I" ∈ mv_ws := mv_w3 224 rfl rfl
set_option maxRecDepth 20000 in
theorem q_fl_X8_88 : Cond.fieldLink RX8 88 "MeasuredVaultModel" "kind" "[I" ∈ mv_ws := mv_w3 225 rfl rfl
set_option maxRecDepth 20000 in
theorem q_fl_X8_91 : Cond.fieldLink RX8 91 "MeasuredVaultModel" "written" "[Z" ∈ mv_ws := mv_w3 226 rfl rfl
set_option maxRecDepth 20000 in
theorem q_fl_X8_94 : Cond.fieldLink RX8 94 "MeasuredVaultModel" "isShut" "[Z" ∈ mv_ws := mv_w3 227 rfl rfl
set_option maxRecDepth 20000 in
theorem q_fl_X8_97 : Cond.fieldLink RX8 97 "MeasuredVaultModel" "check" "[B" ∈ mv_ws := mv_w3 228 rfl rfl
set_option maxRecDepth 20000 in
theorem q_ac_long : Cond.arrayClass .long ∈ mv_ws := mv_w4 66 rfl rfl
set_option maxRecDepth 20000 in
theorem q_ac_boolean : Cond.arrayClass .boolean ∈ mv_ws := mv_w4 67 rfl rfl
set_option maxRecDepth 20000 in
theorem q_ml_L_25 : Cond.methodLink RL 25 yX8_feed ∈ mv_ws := mv_w4 68 rfl rfl
set_option maxRecDepth 20000 in
theorem q_im_X8_feed : Cond.instanceMethod yX8_feed ∈ mv_ws := mv_w4 69 rfl rfl
set_option maxRecDepth 20000 in
theorem q_se_X8_feed : Cond.selects RX8 yX8_feed yX8_feed ∈ mv_ws := mv_w4 70 rfl rfl
set_option maxRecDepth 20000 in
theorem q_co_X8_feed : Cond.code yX8_feed cX8_feed 6 (some .int) ∈ mv_ws := mv_w4 71 rfl rfl
set_option maxRecDepth 20000 in
theorem q_ml_X8_140 : Cond.methodLink RX8 140 yX8_put ∈ mv_ws := mv_w4 72 rfl rfl
set_option maxRecDepth 20000 in
theorem q_im_X8_put : Cond.instanceMethod yX8_put ∈ mv_ws := mv_w4 74 rfl rfl
set_option maxRecDepth 20000 in
theorem q_co_X8_put : Cond.code yX8_put cX8_put 3 none ∈ mv_ws := mv_w4 75 rfl rfl
set_option maxRecDepth 20000 in
theorem q_ml_L_30 : Cond.methodLink RL 30 yX8_end ∈ mv_ws := mv_w4 76 rfl rfl
set_option maxRecDepth 20000 in
theorem q_im_X8_end : Cond.instanceMethod yX8_end ∈ mv_ws := mv_w4 77 rfl rfl
set_option maxRecDepth 20000 in
theorem q_se_X8_end : Cond.selects RX8 yX8_end yX8_end ∈ mv_ws := mv_w4 78 rfl rfl
set_option maxRecDepth 20000 in
theorem q_co_X8_end : Cond.code yX8_end cX8_end 2 (some .int) ∈ mv_ws := mv_w4 79 rfl rfl
set_option maxRecDepth 20000 in
theorem q_ml_L_34 : Cond.methodLink RL 34 yX8_octet ∈ mv_ws := mv_w4 80 rfl rfl
set_option maxRecDepth 20000 in
theorem q_im_X8_octet : Cond.instanceMethod yX8_octet ∈ mv_ws := mv_w4 81 rfl rfl
set_option maxRecDepth 20000 in
theorem q_se_X8_octet : Cond.selects RX8 yX8_octet yX8_octet ∈ mv_ws := mv_w4 82 rfl rfl
set_option maxRecDepth 20000 in
theorem q_co_X8_octet : Cond.code yX8_octet cX8_octet 2 (some .int) ∈ mv_ws := mv_w4 83 rfl rfl
set_option maxRecDepth 20000 in
theorem q_ml_L_39 : Cond.methodLink RL 39 yX8_back ∈ mv_ws := mv_w4 84 rfl rfl
set_option maxRecDepth 20000 in
theorem q_im_X8_back : Cond.instanceMethod yX8_back ∈ mv_ws := mv_w4 85 rfl rfl
set_option maxRecDepth 20000 in
theorem q_se_X8_back : Cond.selects RX8 yX8_back yX8_back ∈ mv_ws := mv_w4 86 rfl rfl
set_option maxRecDepth 20000 in
theorem q_co_X8_back : Cond.code yX8_back cX8_back 2 (some .int) ∈ mv_ws := mv_w4 87 rfl rfl
set_option maxRecDepth 20000 in
theorem q_ml_L_43 : Cond.methodLink RL 43 yX8_hash ∈ mv_ws := mv_w4 88 rfl rfl
set_option maxRecDepth 20000 in
theorem q_im_X8_hash : Cond.instanceMethod yX8_hash ∈ mv_ws := mv_w4 89 rfl rfl
set_option maxRecDepth 20000 in
theorem q_se_X8_hash : Cond.selects RX8 yX8_hash yX8_hash ∈ mv_ws := mv_w4 90 rfl rfl
set_option maxRecDepth 20000 in
theorem q_co_X8_hash : Cond.code yX8_hash cX8_hash 1 (some .int) ∈ mv_ws := mv_w4 91 rfl rfl
set_option maxRecDepth 20000 in
theorem q_ml_X8_146 : Cond.methodLink RX8 146 yX8_tapeHash ∈ mv_ws := mv_w4 92 rfl rfl
set_option maxRecDepth 20000 in
theorem q_im_X8_tapeHash : Cond.instanceMethod yX8_tapeHash ∈ mv_ws := mv_w4 94 rfl rfl
set_option maxRecDepth 20000 in
theorem q_co_X8_tapeHash : Cond.code yX8_tapeHash cX8_tapeHash 3 none ∈ mv_ws := mv_w4 95 rfl rfl
set_option maxRecDepth 20000 in
theorem q_ml_X8_134 : Cond.methodLink RX8 134 yX8_add_ ∈ mv_ws := mv_w4 96 rfl rfl
set_option maxRecDepth 20000 in
theorem q_im_X8_add_ : Cond.instanceMethod yX8_add_ ∈ mv_ws := mv_w4 98 rfl rfl
set_option maxRecDepth 20000 in
theorem q_co_X8_add_ : Cond.code yX8_add_ cX8_add_ 5 none ∈ mv_ws := mv_w4 99 rfl rfl
set_option maxRecDepth 20000 in
theorem q_ml_X8_149 : Cond.methodLink RX8 149 yX8_told ∈ mv_ws := mv_w4 100 rfl rfl
set_option maxRecDepth 20000 in
theorem q_im_X8_told : Cond.instanceMethod yX8_told ∈ mv_ws := mv_w4 102 rfl rfl
set_option maxRecDepth 20000 in
theorem q_co_X8_told : Cond.code yX8_told cX8_told 1 (some .int) ∈ mv_ws := mv_w4 103 rfl rfl
set_option maxRecDepth 20000 in
theorem q_ml_L_47 : Cond.methodLink RL 47 yX8_key ∈ mv_ws := mv_w4 104 rfl rfl
set_option maxRecDepth 20000 in
theorem q_im_X8_key : Cond.instanceMethod yX8_key ∈ mv_ws := mv_w4 105 rfl rfl
set_option maxRecDepth 20000 in
theorem q_se_X8_key : Cond.selects RX8 yX8_key yX8_key ∈ mv_ws := mv_w4 106 rfl rfl
set_option maxRecDepth 20000 in
theorem q_co_X8_key : Cond.code yX8_key cX8_key 1 (some .int) ∈ mv_ws := mv_w4 107 rfl rfl
set_option maxRecDepth 20000 in
theorem q_ml_L_51 : Cond.methodLink RL 51 yX8_extend ∈ mv_ws := mv_w4 108 rfl rfl
set_option maxRecDepth 20000 in
theorem q_im_X8_extend : Cond.instanceMethod yX8_extend ∈ mv_ws := mv_w4 109 rfl rfl
set_option maxRecDepth 20000 in
theorem q_se_X8_extend : Cond.selects RX8 yX8_extend yX8_extend ∈ mv_ws := mv_w4 110 rfl rfl
set_option maxRecDepth 20000 in
theorem q_co_X8_extend : Cond.code yX8_extend cX8_extend 3 (some .int) ∈ mv_ws := mv_w4 111 rfl rfl
set_option maxRecDepth 20000 in
theorem q_ml_X8_153 : Cond.methodLink RX8 153 yX8_change ∈ mv_ws := mv_w4 112 rfl rfl
set_option maxRecDepth 20000 in
theorem q_im_X8_change : Cond.instanceMethod yX8_change ∈ mv_ws := mv_w4 114 rfl rfl
set_option maxRecDepth 20000 in
theorem q_co_X8_change : Cond.code yX8_change cX8_change 2 none ∈ mv_ws := mv_w4 115 rfl rfl
set_option maxRecDepth 20000 in
theorem q_ml_L_55 : Cond.methodLink RL 55 yX8_reset ∈ mv_ws := mv_w4 116 rfl rfl
set_option maxRecDepth 20000 in
theorem q_im_X8_reset : Cond.instanceMethod yX8_reset ∈ mv_ws := mv_w4 117 rfl rfl
set_option maxRecDepth 20000 in
theorem q_se_X8_reset : Cond.selects RX8 yX8_reset yX8_reset ∈ mv_ws := mv_w4 118 rfl rfl
set_option maxRecDepth 20000 in
theorem q_co_X8_reset : Cond.code yX8_reset cX8_reset 3 (some .int) ∈ mv_ws := mv_w4 119 rfl rfl
set_option maxRecDepth 20000 in
theorem q_ml_L_59 : Cond.methodLink RL 59 yX8_state ∈ mv_ws := mv_w4 120 rfl rfl
set_option maxRecDepth 20000 in
theorem q_im_X8_state : Cond.instanceMethod yX8_state ∈ mv_ws := mv_w4 121 rfl rfl
set_option maxRecDepth 20000 in
theorem q_se_X8_state : Cond.selects RX8 yX8_state yX8_state ∈ mv_ws := mv_w4 122 rfl rfl
set_option maxRecDepth 20000 in
theorem q_co_X8_state : Cond.code yX8_state cX8_state 2 (some .int) ∈ mv_ws := mv_w4 123 rfl rfl
set_option maxRecDepth 20000 in
theorem q_ml_X8_156 : Cond.methodLink RX8 156 yX8_stateTo ∈ mv_ws := mv_w4 124 rfl rfl
set_option maxRecDepth 20000 in
theorem q_im_X8_stateTo : Cond.instanceMethod yX8_stateTo ∈ mv_ws := mv_w4 126 rfl rfl
set_option maxRecDepth 20000 in
theorem q_co_X8_stateTo : Cond.code yX8_stateTo cX8_stateTo 5 none ∈ mv_ws := mv_w4 127 rfl rfl
set_option maxRecDepth 20000 in
theorem q_ml_L_63 : Cond.methodLink RL 63 yX8_quote ∈ mv_ws := mv_w4 128 rfl rfl
set_option maxRecDepth 20000 in
theorem q_im_X8_quote : Cond.instanceMethod yX8_quote ∈ mv_ws := mv_w4 129 rfl rfl
set_option maxRecDepth 20000 in
theorem q_se_X8_quote : Cond.selects RX8 yX8_quote yX8_quote ∈ mv_ws := mv_w4 130 rfl rfl
set_option maxRecDepth 20000 in
theorem q_co_X8_quote : Cond.code yX8_quote cX8_quote 4 (some .int) ∈ mv_ws := mv_w4 131 rfl rfl
set_option maxRecDepth 20000 in
theorem q_ml_X8_160 : Cond.methodLink RX8 160 yX8_tell ∈ mv_ws := mv_w4 132 rfl rfl
set_option maxRecDepth 20000 in
theorem q_im_X8_tell : Cond.instanceMethod yX8_tell ∈ mv_ws := mv_w4 134 rfl rfl
set_option maxRecDepth 20000 in
theorem q_co_X8_tell : Cond.code yX8_tell cX8_tell 2 none ∈ mv_ws := mv_w4 135 rfl rfl
set_option maxRecDepth 20000 in
theorem q_ml_X8_166 : Cond.methodLink RX8 166 yX8_tellWord ∈ mv_ws := mv_w4 136 rfl rfl
set_option maxRecDepth 20000 in
theorem q_im_X8_tellWord : Cond.instanceMethod yX8_tellWord ∈ mv_ws := mv_w4 138 rfl rfl
set_option maxRecDepth 20000 in
theorem q_co_X8_tellWord : Cond.code yX8_tellWord cX8_tellWord 3 none ∈ mv_ws := mv_w4 139 rfl rfl
set_option maxRecDepth 20000 in
theorem q_ml_X8_172 : Cond.methodLink RX8 172 yX8_macSeed ∈ mv_ws := mv_w4 140 rfl rfl
set_option maxRecDepth 20000 in
theorem q_im_X8_macSeed : Cond.instanceMethod yX8_macSeed ∈ mv_ws := mv_w4 142 rfl rfl
set_option maxRecDepth 20000 in
theorem q_co_X8_macSeed : Cond.code yX8_macSeed cX8_macSeed 3 none ∈ mv_ws := mv_w4 143 rfl rfl
set_option maxRecDepth 20000 in
theorem q_ml_X8_175 : Cond.methodLink RX8 175 yX8_macTo ∈ mv_ws := mv_w4 144 rfl rfl
set_option maxRecDepth 20000 in
theorem q_im_X8_macTo : Cond.instanceMethod yX8_macTo ∈ mv_ws := mv_w4 146 rfl rfl
set_option maxRecDepth 20000 in
theorem q_co_X8_macTo : Cond.code yX8_macTo cX8_macTo 4 none ∈ mv_ws := mv_w4 147 rfl rfl
set_option maxRecDepth 20000 in
theorem q_ml_L_67 : Cond.methodLink RL 67 yX8_open ∈ mv_ws := mv_w4 148 rfl rfl
set_option maxRecDepth 20000 in
theorem q_im_X8_open : Cond.instanceMethod yX8_open ∈ mv_ws := mv_w4 149 rfl rfl
set_option maxRecDepth 20000 in
theorem q_se_X8_open : Cond.selects RX8 yX8_open yX8_open ∈ mv_ws := mv_w4 150 rfl rfl
set_option maxRecDepth 20000 in
theorem q_co_X8_open : Cond.code yX8_open cX8_open 3 (some .int) ∈ mv_ws := mv_w4 151 rfl rfl
set_option maxRecDepth 20000 in
theorem q_ml_X8_178 : Cond.methodLink RX8 178 yX8_isSession ∈ mv_ws := mv_w4 152 rfl rfl
set_option maxRecDepth 20000 in
theorem q_st_X8_isSession : Cond.static yX8_isSession ∈ mv_ws := mv_w4 153 rfl rfl
set_option maxRecDepth 20000 in
theorem q_co_X8_isSession : Cond.code yX8_isSession cX8_isSession 1 (some .boolean) ∈ mv_ws := mv_w4 154 rfl rfl
set_option maxRecDepth 20000 in
theorem q_ml_L_72 : Cond.methodLink RL 72 yX8_policyState ∈ mv_ws := mv_w4 155 rfl rfl
set_option maxRecDepth 20000 in
theorem q_im_X8_policyState : Cond.instanceMethod yX8_policyState ∈ mv_ws := mv_w4 156 rfl rfl
set_option maxRecDepth 20000 in
theorem q_se_X8_policyState : Cond.selects RX8 yX8_policyState yX8_policyState ∈ mv_ws := mv_w4 157 rfl rfl
set_option maxRecDepth 20000 in
theorem q_co_X8_policyState : Cond.code yX8_policyState cX8_policyState 3 (some .int) ∈ mv_ws := mv_w4 158 rfl rfl
set_option maxRecDepth 20000 in
theorem q_ml_X8_182 : Cond.methodLink RX8 182 yX8_opened ∈ mv_ws := mv_w4 159 rfl rfl
set_option maxRecDepth 20000 in
theorem q_im_X8_opened : Cond.instanceMethod yX8_opened ∈ mv_ws := mv_w4 161 rfl rfl
set_option maxRecDepth 20000 in
theorem q_co_X8_opened : Cond.code yX8_opened cX8_opened 2 (some .boolean) ∈ mv_ws := mv_w4 162 rfl rfl
set_option maxRecDepth 20000 in
theorem q_ml_X8_185 : Cond.methodLink RX8 185 yX8_begin ∈ mv_ws := mv_w4 163 rfl rfl
set_option maxRecDepth 20000 in
theorem q_im_X8_begin : Cond.instanceMethod yX8_begin ∈ mv_ws := mv_w4 165 rfl rfl
set_option maxRecDepth 20000 in
theorem q_co_X8_begin : Cond.code yX8_begin cX8_begin 3 none ∈ mv_ws := mv_w4 166 rfl rfl
set_option maxRecDepth 20000 in
theorem q_ml_L_76 : Cond.methodLink RL 76 yX8_policyAuth ∈ mv_ws := mv_w4 167 rfl rfl
set_option maxRecDepth 20000 in
theorem q_im_X8_policyAuth : Cond.instanceMethod yX8_policyAuth ∈ mv_ws := mv_w4 168 rfl rfl
set_option maxRecDepth 20000 in
theorem q_se_X8_policyAuth : Cond.selects RX8 yX8_policyAuth yX8_policyAuth ∈ mv_ws := mv_w4 169 rfl rfl
set_option maxRecDepth 20000 in
theorem q_co_X8_policyAuth : Cond.code yX8_policyAuth cX8_policyAuth 2 (some .int) ∈ mv_ws := mv_w4 170 rfl rfl
set_option maxRecDepth 20000 in
theorem q_ml_L_80 : Cond.methodLink RL 80 yX8_policyCode ∈ mv_ws := mv_w4 171 rfl rfl
set_option maxRecDepth 20000 in
theorem q_im_X8_policyCode : Cond.instanceMethod yX8_policyCode ∈ mv_ws := mv_w4 172 rfl rfl
set_option maxRecDepth 20000 in
theorem q_se_X8_policyCode : Cond.selects RX8 yX8_policyCode yX8_policyCode ∈ mv_ws := mv_w4 173 rfl rfl
set_option maxRecDepth 20000 in
theorem q_co_X8_policyCode : Cond.code yX8_policyCode cX8_policyCode 3 (some .int) ∈ mv_ws := mv_w4 174 rfl rfl
set_option maxRecDepth 20000 in
theorem q_ml_L_84 : Cond.methodLink RL 84 yX8_policyTime ∈ mv_ws := mv_w4 175 rfl rfl
set_option maxRecDepth 20000 in
theorem q_im_X8_policyTime : Cond.instanceMethod yX8_policyTime ∈ mv_ws := mv_w4 176 rfl rfl
set_option maxRecDepth 20000 in
theorem q_se_X8_policyTime : Cond.selects RX8 yX8_policyTime yX8_policyTime ∈ mv_ws := mv_w4 177 rfl rfl
set_option maxRecDepth 20000 in
theorem q_co_X8_policyTime : Cond.code yX8_policyTime cX8_policyTime 3 (some .int) ∈ mv_ws := mv_w4 178 rfl rfl
set_option maxRecDepth 20000 in
theorem q_ml_L_88 : Cond.methodLink RL 88 yX8_policyOr ∈ mv_ws := mv_w4 179 rfl rfl
set_option maxRecDepth 20000 in
theorem q_im_X8_policyOr : Cond.instanceMethod yX8_policyOr ∈ mv_ws := mv_w4 180 rfl rfl
set_option maxRecDepth 20000 in
theorem q_se_X8_policyOr : Cond.selects RX8 yX8_policyOr yX8_policyOr ∈ mv_ws := mv_w4 181 rfl rfl
set_option maxRecDepth 20000 in
theorem q_co_X8_policyOr : Cond.code yX8_policyOr cX8_policyOr 5 (some .int) ∈ mv_ws := mv_w4 182 rfl rfl
set_option maxRecDepth 20000 in
theorem q_ml_X8_189 : Cond.methodLink RX8 189 yX8_same ∈ mv_ws := mv_w4 183 rfl rfl
set_option maxRecDepth 20000 in
theorem q_st_X8_same : Cond.static yX8_same ∈ mv_ws := mv_w4 184 rfl rfl
set_option maxRecDepth 20000 in
theorem q_co_X8_same : Cond.code yX8_same cX8_same 5 (some .boolean) ∈ mv_ws := mv_w4 185 rfl rfl
set_option maxRecDepth 20000 in
theorem q_ml_L_92 : Cond.methodLink RL 92 yX8_digest ∈ mv_ws := mv_w4 186 rfl rfl
set_option maxRecDepth 20000 in
theorem q_im_X8_digest : Cond.instanceMethod yX8_digest ∈ mv_ws := mv_w4 187 rfl rfl
set_option maxRecDepth 20000 in
theorem q_se_X8_digest : Cond.selects RX8 yX8_digest yX8_digest ∈ mv_ws := mv_w4 188 rfl rfl
set_option maxRecDepth 20000 in
theorem q_co_X8_digest : Cond.code yX8_digest cX8_digest 3 (some .int) ∈ mv_ws := mv_w4 189 rfl rfl
set_option maxRecDepth 20000 in
theorem q_ml_L_96 : Cond.methodLink RL 96 yX8_seal ∈ mv_ws := mv_w4 190 rfl rfl
set_option maxRecDepth 20000 in
theorem q_im_X8_seal : Cond.instanceMethod yX8_seal ∈ mv_ws := mv_w4 191 rfl rfl
set_option maxRecDepth 20000 in
theorem q_se_X8_seal : Cond.selects RX8 yX8_seal yX8_seal ∈ mv_ws := mv_w4 192 rfl rfl
set_option maxRecDepth 20000 in
theorem q_co_X8_seal : Cond.code yX8_seal cX8_seal 4 (some .int) ∈ mv_ws := mv_w4 193 rfl rfl
set_option maxRecDepth 20000 in
theorem q_ml_X8_206 : Cond.methodLink RX8 206 yX8_mix ∈ mv_ws := mv_w4 194 rfl rfl
set_option maxRecDepth 20000 in
theorem q_im_X8_mix : Cond.instanceMethod yX8_mix ∈ mv_ws := mv_w4 196 rfl rfl
set_option maxRecDepth 20000 in
theorem q_co_X8_mix : Cond.code yX8_mix cX8_mix 6 none ∈ mv_ws := mv_w4 197 rfl rfl
set_option maxRecDepth 20000 in
theorem q_ml_X8_200 : Cond.methodLink RX8 200 yX8_number ∈ mv_ws := mv_w4 198 rfl rfl
set_option maxRecDepth 20000 in
theorem q_im_X8_number : Cond.instanceMethod yX8_number ∈ mv_ws := mv_w4 200 rfl rfl
set_option maxRecDepth 20000 in
theorem q_co_X8_number : Cond.code yX8_number cX8_number 3 none ∈ mv_ws := mv_w4 201 rfl rfl
set_option maxRecDepth 20000 in
theorem q_ml_X8_210 : Cond.methodLink RX8 210 yX8_sealTo ∈ mv_ws := mv_w4 202 rfl rfl
set_option maxRecDepth 20000 in
theorem q_im_X8_sealTo : Cond.instanceMethod yX8_sealTo ∈ mv_ws := mv_w4 204 rfl rfl
set_option maxRecDepth 20000 in
theorem q_co_X8_sealTo : Cond.code yX8_sealTo cX8_sealTo 7 none ∈ mv_ws := mv_w4 205 rfl rfl
set_option maxRecDepth 20000 in
theorem q_ml_L_100 : Cond.methodLink RL 100 yX8_load ∈ mv_ws := mv_w4 206 rfl rfl
set_option maxRecDepth 20000 in
theorem q_im_X8_load : Cond.instanceMethod yX8_load ∈ mv_ws := mv_w4 207 rfl rfl
set_option maxRecDepth 20000 in
theorem q_se_X8_load : Cond.selects RX8 yX8_load yX8_load ∈ mv_ws := mv_w4 208 rfl rfl
set_option maxRecDepth 20000 in
theorem q_co_X8_load : Cond.code yX8_load cX8_load 5 (some .int) ∈ mv_ws := mv_w4 209 rfl rfl
set_option maxRecDepth 20000 in
theorem q_ml_L_104 : Cond.methodLink RL 104 yX8_unseal ∈ mv_ws := mv_w4 210 rfl rfl
set_option maxRecDepth 20000 in
theorem q_im_X8_unseal : Cond.instanceMethod yX8_unseal ∈ mv_ws := mv_w4 211 rfl rfl
set_option maxRecDepth 20000 in
theorem q_se_X8_unseal : Cond.selects RX8 yX8_unseal yX8_unseal ∈ mv_ws := mv_w4 212 rfl rfl
set_option maxRecDepth 20000 in
theorem q_co_X8_unseal : Cond.code yX8_unseal cX8_unseal 4 (some .int) ∈ mv_ws := mv_w4 213 rfl rfl
set_option maxRecDepth 20000 in
theorem q_ml_X8_214 : Cond.methodLink RX8 214 yX8_isObject ∈ mv_ws := mv_w4 214 rfl rfl
set_option maxRecDepth 20000 in
theorem q_im_X8_isObject : Cond.instanceMethod yX8_isObject ∈ mv_ws := mv_w4 216 rfl rfl
set_option maxRecDepth 20000 in
theorem q_co_X8_isObject : Cond.code yX8_isObject cX8_isObject 2 (some .boolean) ∈ mv_ws := mv_w4 217 rfl rfl
set_option maxRecDepth 20000 in
theorem q_ml_X8_217 : Cond.methodLink RX8 217 yX8_by ∈ mv_ws := mv_w4 218 rfl rfl
set_option maxRecDepth 20000 in
theorem q_im_X8_by : Cond.instanceMethod yX8_by ∈ mv_ws := mv_w4 220 rfl rfl
set_option maxRecDepth 20000 in
theorem q_co_X8_by : Cond.code yX8_by cX8_by 6 (some .int) ∈ mv_ws := mv_w4 221 rfl rfl
set_option maxRecDepth 20000 in
theorem q_ml_X8_196 : Cond.methodLink RX8 196 yX8_compared ∈ mv_ws := mv_w4 222 rfl rfl
set_option maxRecDepth 20000 in
theorem q_im_X8_compared : Cond.instanceMethod yX8_compared ∈ mv_ws := mv_w4 224 rfl rfl
set_option maxRecDepth 20000 in
theorem q_co_X8_compared : Cond.code yX8_compared cX8_compared 3 (some .int) ∈ mv_ws := mv_w4 225 rfl rfl
set_option maxRecDepth 20000 in
theorem q_ml_X8_221 : Cond.methodLink RX8 221 yX8_show ∈ mv_ws := mv_w4 226 rfl rfl
set_option maxRecDepth 20000 in
theorem q_im_X8_show : Cond.instanceMethod yX8_show ∈ mv_ws := mv_w4 228 rfl rfl
set_option maxRecDepth 20000 in
theorem q_co_X8_show : Cond.code yX8_show cX8_show 3 (some .int) ∈ mv_ws := mv_w4 229 rfl rfl
set_option maxRecDepth 20000 in
theorem q_ml_L_108 : Cond.methodLink RL 108 yX8_flush ∈ mv_ws := mv_w4 230 rfl rfl
set_option maxRecDepth 20000 in
theorem q_im_X8_flush : Cond.instanceMethod yX8_flush ∈ mv_ws := mv_w4 231 rfl rfl
set_option maxRecDepth 20000 in
theorem q_se_X8_flush : Cond.selects RX8 yX8_flush yX8_flush ∈ mv_ws := mv_w4 232 rfl rfl
set_option maxRecDepth 20000 in
theorem q_co_X8_flush : Cond.code yX8_flush cX8_flush 2 (some .int) ∈ mv_ws := mv_w4 233 rfl rfl
set_option maxRecDepth 20000 in
theorem q_ml_L_113 : Cond.methodLink RL 113 yX8_define ∈ mv_ws := mv_w4 234 rfl rfl
set_option maxRecDepth 20000 in
theorem q_im_X8_define : Cond.instanceMethod yX8_define ∈ mv_ws := mv_w4 235 rfl rfl
set_option maxRecDepth 20000 in
theorem q_se_X8_define : Cond.selects RX8 yX8_define yX8_define ∈ mv_ws := mv_w4 236 rfl rfl
set_option maxRecDepth 20000 in
theorem q_co_X8_define : Cond.code yX8_define cX8_define 9 (some .int) ∈ mv_ws := mv_w4 237 rfl rfl
set_option maxRecDepth 20000 in
theorem q_ml_X8_225 : Cond.methodLink RX8 225 yX8_owners ∈ mv_ws := mv_w4 238 rfl rfl
set_option maxRecDepth 20000 in
theorem q_im_X8_owners : Cond.instanceMethod yX8_owners ∈ mv_ws := mv_w5 0 rfl rfl
set_option maxRecDepth 20000 in
theorem q_co_X8_owners : Cond.code yX8_owners cX8_owners 1 (some .int) ∈ mv_ws := mv_w5 1 rfl rfl
set_option maxRecDepth 20000 in
theorem q_ml_L_117 : Cond.methodLink RL 117 yX8_undefine ∈ mv_ws := mv_w5 2 rfl rfl
set_option maxRecDepth 20000 in
theorem q_im_X8_undefine : Cond.instanceMethod yX8_undefine ∈ mv_ws := mv_w5 3 rfl rfl
set_option maxRecDepth 20000 in
theorem q_se_X8_undefine : Cond.selects RX8 yX8_undefine yX8_undefine ∈ mv_ws := mv_w5 4 rfl rfl
set_option maxRecDepth 20000 in
theorem q_co_X8_undefine : Cond.code yX8_undefine cX8_undefine 4 (some .int) ∈ mv_ws := mv_w5 5 rfl rfl
set_option maxRecDepth 20000 in
theorem q_ml_X8_228 : Cond.methodLink RX8 228 yX8_thing ∈ mv_ws := mv_w5 6 rfl rfl
set_option maxRecDepth 20000 in
theorem q_im_X8_thing : Cond.instanceMethod yX8_thing ∈ mv_ws := mv_w5 8 rfl rfl
set_option maxRecDepth 20000 in
theorem q_co_X8_thing : Cond.code yX8_thing cX8_thing 3 (some .int) ∈ mv_ws := mv_w5 9 rfl rfl
set_option maxRecDepth 20000 in
theorem q_ml_L_122 : Cond.methodLink RL 122 yX8_write ∈ mv_ws := mv_w5 10 rfl rfl
set_option maxRecDepth 20000 in
theorem q_im_X8_write : Cond.instanceMethod yX8_write ∈ mv_ws := mv_w5 11 rfl rfl
set_option maxRecDepth 20000 in
theorem q_se_X8_write : Cond.selects RX8 yX8_write yX8_write ∈ mv_ws := mv_w5 12 rfl rfl
set_option maxRecDepth 20000 in
theorem q_co_X8_write : Cond.code yX8_write cX8_write 8 (some .int) ∈ mv_ws := mv_w5 13 rfl rfl
set_option maxRecDepth 20000 in
theorem q_ml_L_126 : Cond.methodLink RL 126 yX8_count ∈ mv_ws := mv_w5 14 rfl rfl
set_option maxRecDepth 20000 in
theorem q_im_X8_count : Cond.instanceMethod yX8_count ∈ mv_ws := mv_w5 15 rfl rfl
set_option maxRecDepth 20000 in
theorem q_se_X8_count : Cond.selects RX8 yX8_count yX8_count ∈ mv_ws := mv_w5 16 rfl rfl
set_option maxRecDepth 20000 in
theorem q_co_X8_count : Cond.code yX8_count cX8_count 8 (some .int) ∈ mv_ws := mv_w5 17 rfl rfl
set_option maxRecDepth 20000 in
theorem q_k_X8_238 : Cond.constantLong RX8 238 2147483647 ∈ mv_ws := mv_w5 18 rfl rfl
set_option maxRecDepth 20000 in
theorem q_ml_L_130 : Cond.methodLink RL 130 yX8_chain ∈ mv_ws := mv_w5 19 rfl rfl
set_option maxRecDepth 20000 in
theorem q_im_X8_chain : Cond.instanceMethod yX8_chain ∈ mv_ws := mv_w5 20 rfl rfl
set_option maxRecDepth 20000 in
theorem q_se_X8_chain : Cond.selects RX8 yX8_chain yX8_chain ∈ mv_ws := mv_w5 21 rfl rfl
set_option maxRecDepth 20000 in
theorem q_co_X8_chain : Cond.code yX8_chain cX8_chain 6 (some .int) ∈ mv_ws := mv_w5 22 rfl rfl
set_option maxRecDepth 20000 in
theorem q_ml_L_134 : Cond.methodLink RL 134 yX8_read ∈ mv_ws := mv_w5 23 rfl rfl
set_option maxRecDepth 20000 in
theorem q_im_X8_read : Cond.instanceMethod yX8_read ∈ mv_ws := mv_w5 24 rfl rfl
set_option maxRecDepth 20000 in
theorem q_se_X8_read : Cond.selects RX8 yX8_read yX8_read ∈ mv_ws := mv_w5 25 rfl rfl
set_option maxRecDepth 20000 in
theorem q_co_X8_read : Cond.code yX8_read cX8_read 5 (some .int) ∈ mv_ws := mv_w5 26 rfl rfl
set_option maxRecDepth 20000 in
theorem q_ml_L_138 : Cond.methodLink RL 138 yX8_shut ∈ mv_ws := mv_w5 27 rfl rfl
set_option maxRecDepth 20000 in
theorem q_im_X8_shut : Cond.instanceMethod yX8_shut ∈ mv_ws := mv_w5 28 rfl rfl
set_option maxRecDepth 20000 in
theorem q_se_X8_shut : Cond.selects RX8 yX8_shut yX8_shut ∈ mv_ws := mv_w5 29 rfl rfl
set_option maxRecDepth 20000 in
theorem q_co_X8_shut : Cond.code yX8_shut cX8_shut 5 (some .int) ∈ mv_ws := mv_w5 30 rfl rfl
set_option maxRecDepth 20000 in
theorem q_ml_L_142 : Cond.methodLink RL 142 yX8_own ∈ mv_ws := mv_w5 31 rfl rfl
set_option maxRecDepth 20000 in
theorem q_im_X8_own : Cond.instanceMethod yX8_own ∈ mv_ws := mv_w5 32 rfl rfl
set_option maxRecDepth 20000 in
theorem q_se_X8_own : Cond.selects RX8 yX8_own yX8_own ∈ mv_ws := mv_w5 33 rfl rfl
set_option maxRecDepth 20000 in
theorem q_co_X8_own : Cond.code yX8_own cX8_own 3 (some .int) ∈ mv_ws := mv_w5 34 rfl rfl
set_option maxRecDepth 20000 in
theorem q_ml_L_146 : Cond.methodLink RL 146 yX8_unlock ∈ mv_ws := mv_w5 35 rfl rfl
set_option maxRecDepth 20000 in
theorem q_im_X8_unlock : Cond.instanceMethod yX8_unlock ∈ mv_ws := mv_w5 36 rfl rfl
set_option maxRecDepth 20000 in
theorem q_se_X8_unlock : Cond.selects RX8 yX8_unlock yX8_unlock ∈ mv_ws := mv_w5 37 rfl rfl
set_option maxRecDepth 20000 in
theorem q_co_X8_unlock : Cond.code yX8_unlock cX8_unlock 1 (some .int) ∈ mv_ws := mv_w5 38 rfl rfl
set_option maxRecDepth 20000 in
theorem q_ml_L_150 : Cond.methodLink RL 150 yX8_clear ∈ mv_ws := mv_w5 39 rfl rfl
set_option maxRecDepth 20000 in
theorem q_im_X8_clear : Cond.instanceMethod yX8_clear ∈ mv_ws := mv_w5 40 rfl rfl
set_option maxRecDepth 20000 in
theorem q_se_X8_clear : Cond.selects RX8 yX8_clear yX8_clear ∈ mv_ws := mv_w5 41 rfl rfl
set_option maxRecDepth 20000 in
theorem q_co_X8_clear : Cond.code yX8_clear cX8_clear 3 (some .int) ∈ mv_ws := mv_w5 42 rfl rfl
set_option maxRecDepth 20000 in
theorem q_ml_L_154 : Cond.methodLink RL 154 yX8_tick ∈ mv_ws := mv_w5 43 rfl rfl
set_option maxRecDepth 20000 in
theorem q_im_X8_tick : Cond.instanceMethod yX8_tick ∈ mv_ws := mv_w5 44 rfl rfl
set_option maxRecDepth 20000 in
theorem q_se_X8_tick : Cond.selects RX8 yX8_tick yX8_tick ∈ mv_ws := mv_w5 45 rfl rfl
set_option maxRecDepth 20000 in
theorem q_co_X8_tick : Cond.code yX8_tick cX8_tick 3 (some .int) ∈ mv_ws := mv_w5 46 rfl rfl
set_option maxRecDepth 20000 in
theorem q_k_X8_240 : Cond.constant RX8 240 100000 ∈ mv_ws := mv_w5 47 rfl rfl
set_option maxRecDepth 20000 in
theorem q_k_X8_241 : Cond.constant RX8 241 2000000000 ∈ mv_ws := mv_w5 48 rfl rfl
set_option maxRecDepth 20000 in
theorem q_ml_L_158 : Cond.methodLink RL 158 yX8_restart ∈ mv_ws := mv_w5 49 rfl rfl
set_option maxRecDepth 20000 in
theorem q_im_X8_restart : Cond.instanceMethod yX8_restart ∈ mv_ws := mv_w5 50 rfl rfl
set_option maxRecDepth 20000 in
theorem q_se_X8_restart : Cond.selects RX8 yX8_restart yX8_restart ∈ mv_ws := mv_w5 51 rfl rfl
set_option maxRecDepth 20000 in
theorem q_co_X8_restart : Cond.code yX8_restart cX8_restart 2 (some .int) ∈ mv_ws := mv_w5 52 rfl rfl
set_option maxRecDepth 20000 in
theorem q_ml_L_162 : Cond.methodLink RL 162 yX8_look ∈ mv_ws := mv_w5 53 rfl rfl
set_option maxRecDepth 20000 in
theorem q_im_X8_look : Cond.instanceMethod yX8_look ∈ mv_ws := mv_w5 54 rfl rfl
set_option maxRecDepth 20000 in
theorem q_se_X8_look : Cond.selects RX8 yX8_look yX8_look ∈ mv_ws := mv_w5 55 rfl rfl
set_option maxRecDepth 20000 in
theorem q_co_X8_look : Cond.code yX8_look cX8_look 2 (some .int) ∈ mv_ws := mv_w5 56 rfl rfl
set_option maxRecDepth 20000 in
theorem q_ml_X8_242 : Cond.methodLink RX8 242 yX8_many ∈ mv_ws := mv_w5 57 rfl rfl
set_option maxRecDepth 20000 in
theorem q_st_X8_many : Cond.static yX8_many ∈ mv_ws := mv_w5 58 rfl rfl
set_option maxRecDepth 20000 in
theorem q_co_X8_many : Cond.code yX8_many cX8_many 5 (some .int) ∈ mv_ws := mv_w5 59 rfl rfl
set_option maxRecDepth 20000 in
theorem q_se_X1_padMessage : Cond.selects RX1 yX1_padMessage yX1_padMessage ∈ mv_ws := mv_wp1 0 rfl rfl
set_option maxRecDepth 20000 in
theorem q_se_X1_spreadBlock : Cond.selects RX1 yX1_spreadBlock yX1_spreadBlock ∈ mv_ws := mv_wp1 1 rfl rfl
set_option maxRecDepth 20000 in
theorem q_se_X1_mixBlock : Cond.selects RX1 yX1_mixBlock yX1_mixBlock ∈ mv_ws := mv_wp1 2 rfl rfl
set_option maxRecDepth 20000 in
theorem q_se_X7_hashNothing : Cond.selects RX7 yX7_hashNothing yX7_hashNothing ∈ mv_ws := mv_wp1 3 rfl rfl
set_option maxRecDepth 20000 in
theorem q_se_X7_takeTapeHash : Cond.selects RX7 yX7_takeTapeHash yX7_takeTapeHash ∈ mv_ws := mv_wp1 4 rfl rfl
set_option maxRecDepth 20000 in
theorem q_se_X7_tell : Cond.selects RX7 yX7_tell yX7_tell ∈ mv_ws := mv_wp1 5 rfl rfl
set_option maxRecDepth 20000 in
theorem q_se_X1_putPad : Cond.selects RX1 yX1_putPad yX1_putPad ∈ mv_ws := mv_wp1 6 rfl rfl
set_option maxRecDepth 20000 in
theorem q_se_X3_findMark : Cond.selects RX3 yX3_findMark yX3_findMark ∈ mv_ws := mv_wp1 7 rfl rfl
set_option maxRecDepth 20000 in
theorem q_se_X7_openSession : Cond.selects RX7 yX7_openSession yX7_openSession ∈ mv_ws := mv_wp1 8 rfl rfl
set_option maxRecDepth 20000 in
theorem q_se_X7_chooseBranch : Cond.selects RX7 yX7_chooseBranch yX7_chooseBranch ∈ mv_ws := mv_wp1 9 rfl rfl
set_option maxRecDepth 20000 in
theorem q_se_X7_policyFrom : Cond.selects RX7 yX7_policyFrom yX7_policyFrom ∈ mv_ws := mv_wp1 10 rfl rfl
set_option maxRecDepth 20000 in
theorem q_se_X3_derive : Cond.selects RX3 yX3_derive yX3_derive ∈ mv_ws := mv_wp1 11 rfl rfl
set_option maxRecDepth 20000 in
theorem q_se_X3_cover : Cond.selects RX3 yX3_cover yX3_cover ∈ mv_ws := mv_wp1 12 rfl rfl
set_option maxRecDepth 20000 in
theorem q_se_X7_keepUnwrapped : Cond.selects RX7 yX7_keepUnwrapped yX7_keepUnwrapped ∈ mv_ws := mv_wp1 13 rfl rfl
set_option maxRecDepth 20000 in
theorem q_se_X7_objectAt : Cond.selects RX7 yX7_objectAt yX7_objectAt ∈ mv_ws := mv_wp1 14 rfl rfl
set_option maxRecDepth 20000 in
theorem q_se_X7_ask : Cond.selects RX7 yX7_ask yX7_ask ∈ mv_ws := mv_wp1 15 rfl rfl
set_option maxRecDepth 20000 in
theorem q_se_X7_askKey : Cond.selects RX7 yX7_askKey yX7_askKey ∈ mv_ws := mv_wp2 0 rfl rfl
set_option maxRecDepth 20000 in
theorem q_se_X7_valueAt : Cond.selects RX7 yX7_valueAt yX7_valueAt ∈ mv_ws := mv_wp2 1 rfl rfl
set_option maxRecDepth 20000 in
theorem q_se_X7_valueOf : Cond.selects RX7 yX7_valueOf yX7_valueOf ∈ mv_ws := mv_wp2 2 rfl rfl
set_option maxRecDepth 20000 in
theorem q_se_X7_writeTape : Cond.selects RX7 yX7_writeTape yX7_writeTape ∈ mv_ws := mv_wp2 3 rfl rfl
set_option maxRecDepth 20000 in
theorem q_se_X7_askToChange : Cond.selects RX7 yX7_askToChange yX7_askToChange ∈ mv_ws := mv_wp2 4 rfl rfl
set_option maxRecDepth 20000 in
theorem q_se_X7_chainTape : Cond.selects RX7 yX7_chainTape yX7_chainTape ∈ mv_ws := mv_wp2 5 rfl rfl
set_option maxRecDepth 20000 in
theorem q_se_X7_freeObjects : Cond.selects RX7 yX7_freeObjects yX7_freeObjects ∈ mv_ws := mv_wp2 6 rfl rfl
set_option maxRecDepth 20000 in
theorem q_se_X7_objectsHeld : Cond.selects RX7 yX7_objectsHeld yX7_objectsHeld ∈ mv_ws := mv_wp2 7 rfl rfl
set_option maxRecDepth 20000 in
theorem q_se_X7_sessionsOpen : Cond.selects RX7 yX7_sessionsOpen yX7_sessionsOpen ∈ mv_ws := mv_wp2 8 rfl rfl
set_option maxRecDepth 20000 in
theorem q_se_X7_valuesDefined : Cond.selects RX7 yX7_valuesDefined yX7_valuesDefined ∈ mv_ws := mv_wp2 9 rfl rfl
set_option maxRecDepth 20000 in
theorem q_se_X8_add : Cond.selects RX8 yX8_add yX8_add ∈ mv_ws := mv_wp2 10 rfl rfl
set_option maxRecDepth 20000 in
theorem q_se_X8_word : Cond.selects RX8 yX8_word yX8_word ∈ mv_ws := mv_wp2 11 rfl rfl
set_option maxRecDepth 20000 in
theorem q_se_X8_hashTo : Cond.selects RX8 yX8_hashTo yX8_hashTo ∈ mv_ws := mv_wp2 12 rfl rfl
set_option maxRecDepth 20000 in
theorem q_se_X8_block : Cond.selects RX8 yX8_block yX8_block ∈ mv_ws := mv_wp2 13 rfl rfl
set_option maxRecDepth 20000 in
theorem q_se_X8_put : Cond.selects RX8 yX8_put yX8_put ∈ mv_ws := mv_wp2 14 rfl rfl
set_option maxRecDepth 20000 in
theorem q_se_X8_tapeHash : Cond.selects RX8 yX8_tapeHash yX8_tapeHash ∈ mv_ws := mv_wp2 15 rfl rfl
set_option maxRecDepth 20000 in
theorem q_se_X8_add_ : Cond.selects RX8 yX8_add_ yX8_add_ ∈ mv_ws := mv_wp3 0 rfl rfl
set_option maxRecDepth 20000 in
theorem q_se_X8_told : Cond.selects RX8 yX8_told yX8_told ∈ mv_ws := mv_wp3 1 rfl rfl
set_option maxRecDepth 20000 in
theorem q_se_X8_change : Cond.selects RX8 yX8_change yX8_change ∈ mv_ws := mv_wp3 2 rfl rfl
set_option maxRecDepth 20000 in
theorem q_se_X8_stateTo : Cond.selects RX8 yX8_stateTo yX8_stateTo ∈ mv_ws := mv_wp3 3 rfl rfl
set_option maxRecDepth 20000 in
theorem q_se_X8_tell : Cond.selects RX8 yX8_tell yX8_tell ∈ mv_ws := mv_wp3 4 rfl rfl
set_option maxRecDepth 20000 in
theorem q_se_X8_tellWord : Cond.selects RX8 yX8_tellWord yX8_tellWord ∈ mv_ws := mv_wp3 5 rfl rfl
set_option maxRecDepth 20000 in
theorem q_se_X8_macSeed : Cond.selects RX8 yX8_macSeed yX8_macSeed ∈ mv_ws := mv_wp3 6 rfl rfl
set_option maxRecDepth 20000 in
theorem q_se_X8_macTo : Cond.selects RX8 yX8_macTo yX8_macTo ∈ mv_ws := mv_wp3 7 rfl rfl
set_option maxRecDepth 20000 in
theorem q_se_X8_opened : Cond.selects RX8 yX8_opened yX8_opened ∈ mv_ws := mv_wp3 8 rfl rfl
set_option maxRecDepth 20000 in
theorem q_se_X8_begin : Cond.selects RX8 yX8_begin yX8_begin ∈ mv_ws := mv_wp3 9 rfl rfl
set_option maxRecDepth 20000 in
theorem q_se_X8_mix : Cond.selects RX8 yX8_mix yX8_mix ∈ mv_ws := mv_wp3 10 rfl rfl
set_option maxRecDepth 20000 in
theorem q_se_X8_number : Cond.selects RX8 yX8_number yX8_number ∈ mv_ws := mv_wp3 11 rfl rfl
set_option maxRecDepth 20000 in
theorem q_se_X8_sealTo : Cond.selects RX8 yX8_sealTo yX8_sealTo ∈ mv_ws := mv_wp3 12 rfl rfl
set_option maxRecDepth 20000 in
theorem q_se_X8_isObject : Cond.selects RX8 yX8_isObject yX8_isObject ∈ mv_ws := mv_wp3 13 rfl rfl
set_option maxRecDepth 20000 in
theorem q_se_X8_by : Cond.selects RX8 yX8_by yX8_by ∈ mv_ws := mv_wp3 14 rfl rfl
set_option maxRecDepth 20000 in
theorem q_se_X8_compared : Cond.selects RX8 yX8_compared yX8_compared ∈ mv_ws := mv_wp3 15 rfl rfl
set_option maxRecDepth 20000 in
theorem q_se_X8_show : Cond.selects RX8 yX8_show yX8_show ∈ mv_ws := mv_wp4 0 rfl rfl
set_option maxRecDepth 20000 in
theorem q_se_X8_owners : Cond.selects RX8 yX8_owners yX8_owners ∈ mv_ws := mv_wp4 1 rfl rfl
set_option maxRecDepth 20000 in
theorem q_se_X8_thing : Cond.selects RX8 yX8_thing yX8_thing ∈ mv_ws := mv_wp4 2 rfl rfl
set_option maxRecDepth 20000 in
theorem q_X0 : ∀ w ∈ u_ws RX0 TX0 2, w ∈ mv_ws := mv_wa _ [42, 44] (by decide +kernel) (by decide +kernel)
set_option maxRecDepth 20000 in
theorem q_X1 : ∀ w ∈ u_ws RX1 TX1 4, w ∈ mv_ws := mv_wa _ [52, 54, 56, 58] (by decide +kernel) (by decide +kernel)
set_option maxRecDepth 20000 in
theorem q_X2 : ∀ w ∈ u_ws RX2 TX2 3, w ∈ mv_ws := mv_wa _ [141, 143, 145] (by decide +kernel) (by decide +kernel)
set_option maxRecDepth 20000 in
theorem q_X3 : ∀ w ∈ u_ws RX3 TX3 5, w ∈ mv_ws := mv_wa _ [118, 120, 122, 124, 126] (by decide +kernel) (by decide +kernel)
set_option maxRecDepth 20000 in
theorem q_X4 : ∀ w ∈ u_ws RX4 TX4 8, w ∈ mv_ws := mv_wa _ [167, 169, 171, 173, 175, 177, 179, 181] (by decide +kernel) (by decide +kernel)
set_option maxRecDepth 20000 in
theorem q_X5 : ∀ w ∈ u_ws RX5 TX5 4, w ∈ mv_ws := mv_wa _ [202, 204, 206, 208] (by decide +kernel) (by decide +kernel)
set_option maxRecDepth 20000 in
theorem q_X6 : ∀ w ∈ u_ws RX6 TX6 5, w ∈ mv_ws := mv_wa _ [230, 232, 234, 236, 238] (by decide +kernel) (by decide +kernel)
set_option maxRecDepth 20000 in
theorem q_X7 : ∀ w ∈ u_ws RX7 TX7 16, w ∈ mv_ws := mv_wa _ [263, 265, 267, 269, 271, 273, 275, 277, 279, 281, 283, 285, 287, 289, 291, 293] (by decide +kernel) (by decide +kernel)
set_option maxRecDepth 20000 in
theorem q_X8 : ∀ w ∈ u_ws RX8 TX8 38, w ∈ mv_ws := mv_wa _ [709, 711, 713, 715, 717, 719, 721, 723, 725, 727, 729, 731, 733, 735, 737, 739, 741, 743, 745, 747, 749, 751, 753, 755, 757, 759, 761, 763, 765, 767, 769, 771, 773, 775, 777, 779, 781, 783] (by decide +kernel) (by decide +kernel)
end
section
/-! ===== memory as numbers: ints and booleans, bytes, longs, each by kind, number of the object, place ===== -/
abbrev mSt : Type := (Nat → Nat → Nat → Int32) × (Nat → Nat → Nat → Int8) × (Nat → Nat → Nat → Int64)
/-- classes and slots, array classes, where the block of cells begins -/
abbrev mEv : Type := va_G × (Nat → ClassId) × Nat
def m3 {α : Type} (f : Nat → Nat → Nat → α) (k i j : Nat) (v : α) : Nat → Nat → Nat → α := fun k' i' j' => if k' = k ∧ i' = i ∧ j' = j then v else f k' i' j'
def mA {α : Type} (f : Nat → Nat → Nat → α) (k i : Nat) (g : Nat → α) : Nat → Nat → Nat → α := fun k' i' j' => if k' = k ∧ i' = i then g j' else f k' i' j'
def mM (S : mSt) (k i j : Nat) (v : Int32) : mSt := (m3 S.1 k i j v, S.2.1, S.2.2)
def mB (S : mSt) (k i j : Nat) (v : Int8) : mSt := (S.1, m3 S.2.1 k i j v, S.2.2)
def mJ (S : mSt) (k i j : Nat) (v : Int64) : mSt := (S.1, S.2.1, m3 S.2.2 k i j v)
def mAM (S : mSt) (k i : Nat) (g : Nat → Int32) : mSt := (mA S.1 k i g, S.2.1, S.2.2)
def mAB (S : mSt) (k i : Nat) (g : Nat → Int8) : mSt := (S.1, mA S.2.1 k i g, S.2.2)
/-- a layout: its cells by kind and number; their addresses; what each holds -/
abbrev mLY : Type := List (Nat × Nat) × (mEv → Nat → Nat → Nat) × (mEv → mSt → Nat → Nat → va_E)
def mWl (Y : mLY) (E : mEv) (S : mSt) : va_W := Y.1.map (fun q => (Y.2.1 E q.1 q.2, Y.2.2 E S q.1 q.2))
def mHold (Y : mLY) (E : mEv) (S : mSt) (H : Heap) : Prop := va_P E.1 vwCl (mWl Y E S) H
/-- what a cell holds is told by the numbers of that cell alone; no cell stands twice in the list -/
theorem mNd {l : List (Nat × Nat)} (h : l.Nodup) (a b : Nat) (q : Nat × Nat) (ha : l[a]? = some q) (hb : l[b]? = some q) : a = b := by
  have hp := List.pairwise_iff_getElem.mp h
  obtain ⟨la, ea⟩ := List.getElem?_eq_some_iff.mp ha
  obtain ⟨lb, eb⟩ := List.getElem?_eq_some_iff.mp hb
  rcases Nat.lt_trichotomy a b with g | g | g
  · exact absurd (ea.trans eb.symm) (hp a b la lb g)
  · exact g
  · exact absurd (eb.trans ea.symm) (hp b a lb la g)
def mGood (Y : mLY) : Prop := Y.1.Nodup ∧ ∀ (E : mEv) (S S' : mSt) (k i : Nat), (∀ j, S'.1 k i j = S.1 k i j) → (∀ j, S'.2.1 k i j = S.2.1 k i j) → (∀ j, S'.2.2 k i j = S.2.2 k i j) → Y.2.2 E S' k i = Y.2.2 E S k i
/-- the cells are apart, and may be written -/
def mOwn (Y : mLY) (E : mEv) (A : Nat → Prop) : Prop := mGood Y ∧ ∀ S : mSt, va_D A (mWl Y E S)
def mTys (E : mEv) : List (ClassId × FieldType) := [(E.2.1 0, .byte), (E.2.1 1, .int), (E.2.1 2, .long), (E.2.1 3, .boolean), (E.2.1 4, .object RX4), (E.2.1 5, .object RX5), (E.2.1 6, .object RX6)]
def mKL : List Int32 := [1116352408, 1899447441, -1245643825, -373957723, 961987163, 1508970993, -1841331548, -1424204075, -670586216, 310598401, 607225278, 1426881987, 1925078388, -2132889090, -1680079193, -1046744716, -459576895, -272742522, 264347078, 604807628, 770255983, 1249150122, 1555081692, 1996064986, -1740746414, -1473132947, -1341970488, -1084653625, -958395405, -710438585, 113926993, 338241895, 666307205, 773529912, 1294757372, 1396182291, 1695183700, 1986661051, -2117940946, -1838011259, -1564481375, -1474664885, -1035236496, -949202525, -778901479, -694614492, -200395387, 275423344, 430227734, 506948616, 659060556, 883997877, 958139571, 1322822218, 1537002063, 1747873779, 1955562222, 2024104815, -2067236844, -1933114872, -1866530822, -1538233109, -1090935817, -965641998]
def mIL : List Int32 := [1779033703, -1150833019, 1013904242, -1521486534, 1359893119, -1694144372, 528734635, 1541459225]
def mK (j : Nat) : Int32 := mKL.getD j 0
def mI (j : Nat) : Int32 := mIL.getD j 0
/-- a static array of ints that nobody writes -/
def mSa (C n : String) (N : Nat) (f : Nat → Int32) (A : Nat → Prop) (U : State) (H : Heap) : Prop := ∃ t : Nat, va_Z C n "[I" (.ref t) A U H ∧ va_T .int t N (fun j => .int (f j)) A U H
theorem mSa.moved {C n : String} {N : Nat} {f : Nat → Int32} {A : Nat → Prop} {u U : State} {H : Heap} (hvm : u.vm.Alike U.vm) (h : mSa C n N f A u H) : mSa C n N f A U H := by
  obtain ⟨t, h1, h2⟩ := h
  exact ⟨t, h1.moved hvm, h2.moved hvm⟩
theorem mSa.kept {C n : String} {N : Nat} {f : Nat → Int32} {A : Nat → Prop} {U : State} {H H1 : Heap} (h : mSa C n N f A U H) (hq : ∀ a : Nat, a < H.size → ¬ A a → H1[a]? = H[a]?) : mSa C n N f A U H1 := by
  obtain ⟨t, h1, h2⟩ := h
  exact ⟨t, h1.kept hq, h2.kept hq⟩
theorem mSa.narrow {C n : String} {N : Nat} {f : Nat → Int32} {A B : Nat → Prop} {U : State} {H : Heap} (h : mSa C n N f A U H) (hAB : ∀ q, B q → A q) : mSa C n N f B U H := by
  obtain ⟨t, h1, h2⟩ := h
  exact ⟨t, h1.narrow hAB, h2.narrow hAB⟩
def mSs (A : Nat → Prop) (U : State) (H : Heap) : Prop := mSa RX1 "START" 8 mI A U H ∧ mSa RX1 "ROUND" 64 mK A U H ∧ mSa RX8 "BEGIN" 8 mI A U H ∧ mSa RX8 "ROUND" 64 mK A U H
/-- what every method is told of the machine's tables and of the static arrays -/
def mG (E : mEv) (A : Nat → Prop) (U : State) : Prop := va_K E.1 vwCl (mTys E) U ∧ va_Nw (.methodLinkNest RX3 80 yX7_sameBytes RX7) U ∧ mSs A U U.heap
theorem mG.go {E : mEv} {A : Nat → Prop} {s U : State} {H : Heap} {locs : List Loc} (h : mG E A s) (hS : va_S A s.heap H locs) (hU : U.heap = H) (hW : s.WarmedH U.vm) : mG E A U := by
  obtain ⟨h1, h2, a1, a2, a3, a4⟩ := h
  have hq : ∀ a : Nat, a < s.heap.size → ¬ A a → U.heap[a]? = s.heap[a]? := fun a q1 q2 => by rw [hU]; exact hS.2.1 a q1 q2
  exact ⟨h1.moved hW.alike, h2.warmM hW, (a1.kept hq).moved hW.alike, (a2.kept hq).moved hW.alike, (a3.kept hq).moved hW.alike, (a4.kept hq).moved hW.alike⟩
theorem mG.blind {E : mEv} {A : Nat → Prop} {U : State} (h : mG E A U) (g : JFrame) (mk : MethodId) (a : Array Value) : mG E A (U.calling g mk a) := by
  obtain ⟨h1, h2, a1, a2, a3, a4⟩ := h
  have hv : U.vm.Alike (U.calling g mk a).vm := Vm.Alike.refl U.vm
  exact ⟨h1.moved hv, h2.same rfl rfl, a1.moved hv, a2.moved hv, a3.moved hv, a4.moved hv⟩
/-- a method's start and end -/
def mPc (Y : mLY) (E : mEv) (A : Nat → Prop) (S : mSt) (av : List Value) : Array Value → State → Prop := va_Pc av (fun U => mG E A U ∧ mHold Y E S U.heap)
def mQ (Y : mLY) (E : mEv) (A : Nat → Prop) (P : mSt → Prop) (v : Option Value) : Array Value → State → Outcome → State → Prop := fun _ st oc t => (oc = .returned v ∧ ∃ S : mSt, P S ∧ mHold Y E S t.heap) ∧ va_F A st t
abbrev mRm (d q : Nat) : Room := { frames := d, cells := 0, slots := 0, locals := q }
theorem mPc.blind {Y : mLY} {E : mEv} {A : Nat → Prop} {S : mSt} {av : List Value} : FrameBlind (mPc Y E A S av) := fun a _ g mk h => ⟨h.1, h.2.1.blind g mk a, h.2.2⟩
theorem mWl_at {Y : mLY} {E : mEv} {S : mSt} {q0 k i : Nat} (h : Y.1[q0]? = some (k, i)) : (mWl Y E S)[q0]? = some (Y.2.1 E k i, Y.2.2 E S k i) := by
  simp [mWl, h]
theorem mWl_find {Y : mLY} {k i : Nat} (h : (k, i) ∈ Y.1) : ∃ q0 : Nat, Y.1[q0]? = some (k, i) := List.getElem?_of_mem h
theorem mWl_set {Y : mLY} {E : mEv} {S S' : mSt} {q0 k i : Nat} {e : va_E} (hg : mGood Y) (h : Y.1[q0]? = some (k, i)) (he : Y.2.2 E S' k i = e) (h1 : ∀ k' i', ¬ (k' = k ∧ i' = i) → ∀ j, S'.1 k' i' j = S.1 k' i' j) (h2 : ∀ k' i', ¬ (k' = k ∧ i' = i) → ∀ j, S'.2.1 k' i' j = S.2.1 k' i' j) (h3 : ∀ k' i', ¬ (k' = k ∧ i' = i) → ∀ j, S'.2.2 k' i' j = S.2.2 k' i' j) : (mWl Y E S).set q0 (Y.2.1 E k i, e) = mWl Y E S' := by
  have hl := (List.getElem?_eq_some_iff.mp h).1
  apply List.ext_getElem?
  intro j
  by_cases hj : j = q0
  · subst hj
    rw [List.getElem?_set_self (by simp [mWl]; exact hl), mWl_at h, he]
  · rw [List.getElem?_set_ne (Ne.symm hj)]
    simp only [mWl, List.getElem?_map]
    cases hq : Y.1[j]? with
    | none => rfl
    | some q =>
      have hne : ¬ (q.1 = k ∧ q.2 = i) := by
        intro hh
        have hq2 : Y.1[j]? = some (k, i) := by rw [hq, ← hh.1, ← hh.2]
        exact hj (mNd hg.1 j q0 _ hq2 h)
      simp only [Option.map_some]
      rw [hg.2 E S S' q.1 q.2 (h1 _ _ hne) (h2 _ _ hne) (h3 _ _ hne)]
theorem m3_ne {α : Type} (f : Nat → Nat → Nat → α) {k i j k' i' : Nat} (v : α) (h : ¬ (k' = k ∧ i' = i)) (j' : Nat) : m3 f k i j v k' i' j' = f k' i' j' := by
  unfold m3
  rw [if_neg]
  intro q
  exact h ⟨q.1, q.2.1⟩
theorem mA_ne {α : Type} (f : Nat → Nat → Nat → α) {k i k' i' : Nat} (g : Nat → α) (h : ¬ (k' = k ∧ i' = i)) (j' : Nat) : mA f k i g k' i' j' = f k' i' j' := by
  unfold mA
  rw [if_neg h]
theorem mWl_M {Y : mLY} {E : mEv} {S : mSt} {q0 k i j : Nat} {v : Int32} {e : va_E} (hg : mGood Y) (h : Y.1[q0]? = some (k, i)) (he : Y.2.2 E (mM S k i j v) k i = e) : (mWl Y E S).set q0 (Y.2.1 E k i, e) = mWl Y E (mM S k i j v) :=
  mWl_set hg h he (fun _ _ q j' => m3_ne _ _ q j') (fun _ _ _ _ => rfl) (fun _ _ _ _ => rfl)
theorem mWl_J {Y : mLY} {E : mEv} {S : mSt} {q0 k i j : Nat} {v : Int64} {e : va_E} (hg : mGood Y) (h : Y.1[q0]? = some (k, i)) (he : Y.2.2 E (mJ S k i j v) k i = e) : (mWl Y E S).set q0 (Y.2.1 E k i, e) = mWl Y E (mJ S k i j v) :=
  mWl_set hg h he (fun _ _ _ _ => rfl) (fun _ _ _ _ => rfl) (fun _ _ q j' => m3_ne _ _ q j')
theorem mWl_B {Y : mLY} {E : mEv} {S : mSt} {q0 k i j : Nat} {v : Int8} {e : va_E} (hg : mGood Y) (h : Y.1[q0]? = some (k, i)) (he : Y.2.2 E (mB S k i j v) k i = e) : (mWl Y E S).set q0 (Y.2.1 E k i, e) = mWl Y E (mB S k i j v) :=
  mWl_set hg h he (fun _ _ _ _ => rfl) (fun _ _ q j' => m3_ne _ _ q j') (fun _ _ _ _ => rfl)
theorem mWl_AB {Y : mLY} {E : mEv} {S : mSt} {q0 k i : Nat} {g : Nat → Int8} {e : va_E} (hg : mGood Y) (h : Y.1[q0]? = some (k, i)) (he : Y.2.2 E (mAB S k i g) k i = e) : (mWl Y E S).set q0 (Y.2.1 E k i, e) = mWl Y E (mAB S k i g) :=
  mWl_set hg h he (fun _ _ _ _ => rfl) (fun _ _ q j' => mA_ne _ _ q j') (fun _ _ _ _ => rfl)
theorem mWl_AM {Y : mLY} {E : mEv} {S : mSt} {q0 k i : Nat} {g : Nat → Int32} {e : va_E} (hg : mGood Y) (h : Y.1[q0]? = some (k, i)) (he : Y.2.2 E (mAM S k i g) k i = e) : (mWl Y E S).set q0 (Y.2.1 E k i, e) = mWl Y E (mAM S k i g) :=
  mWl_set hg h he (fun _ _ q j' => mA_ne _ _ q j') (fun _ _ _ _ => rfl) (fun _ _ _ _ => rfl)
/-! ===== rows ===== -/
section MVR
variable {p : Program} {l : Launch} {e : Env} {R : Room} {s : State} {m : MethodId} {args : Array Value} {below : List Frame} {meth : Method} {c : Code} {H : Heap} {locs : List Loc} {cells slots : Nat} {Q : State → Prop}
variable {cc : ByteArray} {pc nL : Nat} {ls : Array Slot} {rest : List Value} {A : Nat → Prop} {Y : mLY} {E : mEv} {S : mSt} {cd : Cond} {own : String}
theorem mv_get (Cx : CallFix p m c cc nL s args (cd :: mv_ws) own) (hG : mG E A s) (hH : mHold Y E S H) {C : String} {T : u_T} {N ci index : Nat} (hin : ∀ w ∈ u_ws C T N, w ∈ mv_ws) (k i : Nat) (hok : (k, i) ∈ Y.1) {fs : List Value} (he : Y.2.2 E S k i = .inr (ci, fs)) (hc : vwCl[ci]? = some (C, T, N)) (j : Nat) (hj : j < N) (hl : Cond.fieldLink own index (T j).1 (T j).2.1 (T j).2.2.1 ∈ mv_ws) {v : Value} (hv : fs[j]? = some v) (hdg : decode cc pc = .ok (.getfield index, 3))
    (kk : W p l e R s m args below meth c H locs cells slots Q (F0 m (pc + 3) ls (v :: rest))) : W p l e R s m args below meth c H locs cells slots Q (F0 m pc ls (.ref (Y.2.1 E k i) :: rest)) := by
  obtain ⟨hx, hb, -, ho, hts⟩ := Cx
  obtain ⟨q0, hq⟩ := mWl_find hok
  exact va_get hx hb (Ts := mv_ws) (fun w h => hts w (List.mem_cons_of_mem _ h)) hin ho hG.1 hH q0 ((mWl_at hq).trans (by rw [he])) hc j hj (hts _ (List.mem_cons_of_mem _ hl)) (fun _ h => h) hv hdg kk
theorem mv_putM (Cx : CallFix p m c cc nL s args (cd :: mv_ws) own) (hG : mG E A s) (hO : mOwn Y E A) (hH : mHold Y E S H) (hS : va_S A s.heap H locs) {C : String} {T : u_T} {N ci index : Nat} (hin : ∀ w ∈ u_ws C T N, w ∈ mv_ws) (ty0 : Nat → FieldType) (hty : ∀ k, k < N → parseFieldDescriptor (T k).2.2.1 = some (ty0 k)) (hnm : ∀ a, a < N → ∀ b, b < N → a ≠ b → (T a).2.1 ≠ (T b).2.1) (k i : Nat) (hok : (k, i) ∈ Y.1) {fs : List Value} (he : Y.2.2 E S k i = .inr (ci, fs)) (hc : vwCl[ci]? = some (C, T, N)) (j : Nat) (hj : j < N) (hl : Cond.fieldLink own index (T j).1 (T j).2.1 (T j).2.2.1 ∈ mv_ws) (hfin : (T j).2.2.2 = false) {ty : FieldType} {v : Int32} (hd : parseFieldDescriptor (T j).2.2.1 = some ty) (hn : narrow ty (.int v) = .int v) (hfit : fits ty (.int v) = true) (hlen : j < fs.length) (he' : Y.2.2 E (mM S k i j v) k i = .inr (ci, fs.set j (.int v))) (hdg : decode cc pc = .ok (.putfield index, 3))
    (kk : ∀ (H1 : Heap) (locs1 : List Loc), mHold Y E (mM S k i j v) H1 → va_S A s.heap H1 locs1 → W p l e R s m args below meth c H1 locs1 cells slots Q (F0 m (pc + 3) ls rest)) : W p l e R s m args below meth c H locs cells slots Q (F0 m pc ls (.int v :: .ref (Y.2.1 E k i) :: rest)) := by
  obtain ⟨hx, hb, -, ho, hts⟩ := Cx
  obtain ⟨q0, hq⟩ := mWl_find hok
  refine va_put hx hb (Ts := mv_ws) (fun w h => hts w (List.mem_cons_of_mem _ h)) hin ty0 hty hnm ho hG.1 hH (hO.2 S) hS q0 ((mWl_at hq).trans (by rw [he])) hc j hj (hts _ (List.mem_cons_of_mem _ hl)) (fun _ h => h) hfin hd hn hfit hlen hdg (fun H1 locs1 hP _ hS1 => kk H1 locs1 ?_ hS1)
  rw [mWl_M hO.1 hq he'] at hP
  exact hP
theorem mv_putJ (Cx : CallFix p m c cc nL s args (cd :: mv_ws) own) (hG : mG E A s) (hO : mOwn Y E A) (hH : mHold Y E S H) (hS : va_S A s.heap H locs) {C : String} {T : u_T} {N ci index : Nat} (hin : ∀ w ∈ u_ws C T N, w ∈ mv_ws) (ty0 : Nat → FieldType) (hty : ∀ k, k < N → parseFieldDescriptor (T k).2.2.1 = some (ty0 k)) (hnm : ∀ a, a < N → ∀ b, b < N → a ≠ b → (T a).2.1 ≠ (T b).2.1) (k i : Nat) (hok : (k, i) ∈ Y.1) {fs : List Value} (he : Y.2.2 E S k i = .inr (ci, fs)) (hc : vwCl[ci]? = some (C, T, N)) (j : Nat) (hj : j < N) (hl : Cond.fieldLink own index (T j).1 (T j).2.1 (T j).2.2.1 ∈ mv_ws) (hfin : (T j).2.2.2 = false) {ty : FieldType} {v : Int64} (hd : parseFieldDescriptor (T j).2.2.1 = some ty) (hn : narrow ty (.long v) = .long v) (hfit : fits ty (.long v) = true) (hlen : j < fs.length) (he' : Y.2.2 E (mJ S k i j v) k i = .inr (ci, fs.set j (.long v))) (hdg : decode cc pc = .ok (.putfield index, 3))
    (kk : ∀ (H1 : Heap) (locs1 : List Loc), mHold Y E (mJ S k i j v) H1 → va_S A s.heap H1 locs1 → W p l e R s m args below meth c H1 locs1 cells slots Q (F0 m (pc + 3) ls rest)) : W p l e R s m args below meth c H locs cells slots Q (F0 m pc ls (.long v :: .ref (Y.2.1 E k i) :: rest)) := by
  obtain ⟨hx, hb, -, ho, hts⟩ := Cx
  obtain ⟨q0, hq⟩ := mWl_find hok
  refine va_put hx hb (Ts := mv_ws) (fun w h => hts w (List.mem_cons_of_mem _ h)) hin ty0 hty hnm ho hG.1 hH (hO.2 S) hS q0 ((mWl_at hq).trans (by rw [he])) hc j hj (hts _ (List.mem_cons_of_mem _ hl)) (fun _ h => h) hfin hd hn hfit hlen hdg (fun H1 locs1 hP _ hS1 => kk H1 locs1 ?_ hS1)
  rw [mWl_J hO.1 hq he'] at hP
  exact hP
/-- a byte array's cell, an int array's, a boolean array's, a long array's, as the layout has it -/
def mIsB (Y : mLY) (k i n : Nat) : Prop := (k, i) ∈ Y.1 ∧ n < 2 ^ 31 ∧ ∀ (E : mEv) (S : mSt), Y.2.2 E S k i = .inl (E.2.1 0, n, .inl (fun j => (S.2.1 k i j).toInt32))
def mIsI (Y : mLY) (k i n : Nat) : Prop := (k, i) ∈ Y.1 ∧ n < 2 ^ 31 ∧ ∀ (E : mEv) (S : mSt), Y.2.2 E S k i = .inl (E.2.1 1, n, .inl (fun j => S.1 k i j))
def mIsZ (Y : mLY) (k i n : Nat) : Prop := (k, i) ∈ Y.1 ∧ n < 2 ^ 31 ∧ ∀ (E : mEv) (S : mSt), Y.2.2 E S k i = .inl (E.2.1 3, n, .inl (fun j => S.1 k i j))
def mIsJ (Y : mLY) (k i n : Nat) : Prop := (k, i) ∈ Y.1 ∧ n < 2 ^ 31 ∧ ∀ (E : mEv) (S : mSt), Y.2.2 E S k i = .inl (E.2.1 2, n, .inr (.inl (fun j => S.2.2 k i j)))
theorem mv_bal (Cx : CallFix p m c cc nL s args (cd :: mv_ws) own) (hG : mG E A s) (hH : mHold Y E S H) {k i n : Nat} (hB : mIsB Y k i n) (j : Nat) {x : Int32} (hx : x = nI j) (hj : j < n) (hdg : decode cc pc = .ok (.baload, 1))
    (kk : W p l e R s m args below meth c H locs cells slots Q (F0 m (pc + 1) ls (.int (S.2.1 k i j).toInt32 :: rest))) : W p l e R s m args below meth c H locs cells slots Q (F0 m pc ls (.int x :: .ref (Y.2.1 E k i) :: rest)) := by
  subst hx
  obtain ⟨q0, hq⟩ := mWl_find hB.1
  have hlt : j < 2 ^ 31 := Nat.lt_trans hj hB.2.1
  refine va_bald Cx.1 Cx.2.1 hG.1 hH q0 0 (f := fun j => (S.2.1 k i j).toInt32) ((mWl_at hq).trans (by rw [hB.2.2 E S])) rfl (vp_in_nI hj hB.2.1) hdg ?_
  rw [nI_clamp hlt]
  exact kk
theorem mv_ial (Cx : CallFix p m c cc nL s args (cd :: mv_ws) own) (hG : mG E A s) (hH : mHold Y E S H) {k i n : Nat} (hB : mIsI Y k i n) (j : Nat) {x : Int32} (hx : x = nI j) (hj : j < n) (hdg : decode cc pc = .ok (.iaload, 1))
    (kk : W p l e R s m args below meth c H locs cells slots Q (F0 m (pc + 1) ls (.int (S.1 k i j) :: rest))) : W p l e R s m args below meth c H locs cells slots Q (F0 m pc ls (.int x :: .ref (Y.2.1 E k i) :: rest)) := by
  subst hx
  obtain ⟨q0, hq⟩ := mWl_find hB.1
  have hlt : j < 2 ^ 31 := Nat.lt_trans hj hB.2.1
  refine va_iald Cx.1 Cx.2.1 hG.1 hH q0 1 (f := fun j => S.1 k i j) ((mWl_at hq).trans (by rw [hB.2.2 E S])) rfl (vp_in_nI hj hB.2.1) hdg ?_
  rw [nI_clamp hlt]
  exact kk
theorem mv_zal (Cx : CallFix p m c cc nL s args (cd :: mv_ws) own) (hG : mG E A s) (hH : mHold Y E S H) {k i n : Nat} (hB : mIsZ Y k i n) (j : Nat) {x : Int32} (hx : x = nI j) (hj : j < n) (hdg : decode cc pc = .ok (.baload, 1))
    (kk : W p l e R s m args below meth c H locs cells slots Q (F0 m (pc + 1) ls (.int (S.1 k i j) :: rest))) : W p l e R s m args below meth c H locs cells slots Q (F0 m pc ls (.int x :: .ref (Y.2.1 E k i) :: rest)) := by
  subst hx
  obtain ⟨q0, hq⟩ := mWl_find hB.1
  have hlt : j < 2 ^ 31 := Nat.lt_trans hj hB.2.1
  refine va_zald Cx.1 Cx.2.1 hG.1 hH q0 3 (f := fun j => S.1 k i j) ((mWl_at hq).trans (by rw [hB.2.2 E S])) rfl (vp_in_nI hj hB.2.1) hdg ?_
  rw [nI_clamp hlt]
  exact kk
theorem mv_lal (Cx : CallFix p m c cc nL s args (cd :: mv_ws) own) (hG : mG E A s) (hH : mHold Y E S H) {k i n : Nat} (hB : mIsJ Y k i n) (j : Nat) {x : Int32} (hx : x = nI j) (hj : j < n) (hdg : decode cc pc = .ok (.laload, 1))
    (kk : W p l e R s m args below meth c H locs cells slots Q (F0 m (pc + 1) ls (.long (S.2.2 k i j) :: rest))) : W p l e R s m args below meth c H locs cells slots Q (F0 m pc ls (.int x :: .ref (Y.2.1 E k i) :: rest)) := by
  subst hx
  obtain ⟨q0, hq⟩ := mWl_find hB.1
  have hlt : j < 2 ^ 31 := Nat.lt_trans hj hB.2.1
  refine va_lald Cx.1 Cx.2.1 hG.1 hH q0 2 (f := fun j => S.2.2 k i j) ((mWl_at hq).trans (by rw [hB.2.2 E S])) rfl (vp_in_nI hj hB.2.1) hdg ?_
  rw [nI_clamp hlt]
  exact kk
theorem mv_updB (f : Nat → Nat → Nat → Int8) (k i j : Nat) (x : Int32) : (fun q => (m3 f k i j x.toInt8 k i q).toInt32) = upd (fun q => (f k i q).toInt32) j (vp_nar .byte x) := by
  funext q
  rw [vp_nar_byte]
  by_cases h : q = j
  · subst h; simp [m3, upd]
  · simp [m3, upd, h]
theorem mv_updI (f : Nat → Nat → Nat → Int32) (k i j : Nat) (x : Int32) : (fun q => m3 f k i j x k i q) = upd (fun q => f k i q) j x := by
  funext q
  by_cases h : q = j
  · subst h; simp [m3, upd]
  · simp [m3, upd, h]
theorem mv_updJ (f : Nat → Nat → Nat → Int64) (k i j : Nat) (x : Int64) : (fun q => m3 f k i j x k i q) = vp_updL (fun q => f k i q) j x := by
  funext q
  by_cases h : q = j
  · subst h; simp [m3, vp_updL]
  · simp [m3, vp_updL, h]
theorem mv_bas (Cx : CallFix p m c cc nL s args (cd :: mv_ws) own) (hG : mG E A s) (hO : mOwn Y E A) (hH : mHold Y E S H) (hS : va_S A s.heap H locs) {k i n : Nat} (hB : mIsB Y k i n) (j : Nat) {x v : Int32} (hx : x = nI j) (hj : j < n) (hdg : decode cc pc = .ok (.bastore, 1))
    (kk : ∀ (H1 : Heap) (locs1 : List Loc), mHold Y E (mB S k i j v.toInt8) H1 → va_S A s.heap H1 locs1 → W p l e R s m args below meth c H1 locs1 cells slots Q (F0 m (pc + 1) ls rest)) : W p l e R s m args below meth c H locs cells slots Q (F0 m pc ls (.int v :: .int x :: .ref (Y.2.1 E k i) :: rest)) := by
  subst hx
  obtain ⟨q0, hq⟩ := mWl_find hB.1
  have hlt : j < 2 ^ 31 := Nat.lt_trans hj hB.2.1
  refine va_bast Cx.1 Cx.2.1 hG.1 hH (hO.2 S) hS q0 0 (f := fun j => (S.2.1 k i j).toInt32) ((mWl_at hq).trans (by rw [hB.2.2 E S])) rfl (vp_in_nI hj hB.2.1) hdg (fun H1 locs1 hP _ hS1 => kk H1 locs1 ?_ hS1)
  rw [nI_clamp hlt, mWl_B hO.1 hq (hB.2.2 E (mB S k i j v.toInt8) |>.trans (by rw [← mv_updB]; rfl))] at hP
  exact hP
theorem mv_ias (Cx : CallFix p m c cc nL s args (cd :: mv_ws) own) (hG : mG E A s) (hO : mOwn Y E A) (hH : mHold Y E S H) (hS : va_S A s.heap H locs) {k i n : Nat} (hB : mIsI Y k i n) (j : Nat) {x v : Int32} (hx : x = nI j) (hj : j < n) (hdg : decode cc pc = .ok (.iastore, 1))
    (kk : ∀ (H1 : Heap) (locs1 : List Loc), mHold Y E (mM S k i j v) H1 → va_S A s.heap H1 locs1 → W p l e R s m args below meth c H1 locs1 cells slots Q (F0 m (pc + 1) ls rest)) : W p l e R s m args below meth c H locs cells slots Q (F0 m pc ls (.int v :: .int x :: .ref (Y.2.1 E k i) :: rest)) := by
  subst hx
  obtain ⟨q0, hq⟩ := mWl_find hB.1
  have hlt : j < 2 ^ 31 := Nat.lt_trans hj hB.2.1
  refine va_iast Cx.1 Cx.2.1 hG.1 hH (hO.2 S) hS q0 1 (f := fun j => S.1 k i j) ((mWl_at hq).trans (by rw [hB.2.2 E S])) rfl (vp_in_nI hj hB.2.1) hdg (fun H1 locs1 hP _ hS1 => kk H1 locs1 ?_ hS1)
  rw [nI_clamp hlt, mWl_M hO.1 hq (hB.2.2 E (mM S k i j v) |>.trans (by rw [← mv_updI]; rfl))] at hP
  exact hP
theorem mv_las (Cx : CallFix p m c cc nL s args (cd :: mv_ws) own) (hG : mG E A s) (hO : mOwn Y E A) (hH : mHold Y E S H) (hS : va_S A s.heap H locs) {k i n : Nat} (hB : mIsJ Y k i n) (j : Nat) {x : Int32} {v : Int64} (hx : x = nI j) (hj : j < n) (hdg : decode cc pc = .ok (.lastore, 1))
    (kk : ∀ (H1 : Heap) (locs1 : List Loc), mHold Y E (mJ S k i j v) H1 → va_S A s.heap H1 locs1 → W p l e R s m args below meth c H1 locs1 cells slots Q (F0 m (pc + 1) ls rest)) : W p l e R s m args below meth c H locs cells slots Q (F0 m pc ls (.long v :: .int x :: .ref (Y.2.1 E k i) :: rest)) := by
  subst hx
  obtain ⟨q0, hq⟩ := mWl_find hB.1
  have hlt : j < 2 ^ 31 := Nat.lt_trans hj hB.2.1
  refine va_last Cx.1 Cx.2.1 hG.1 hH (hO.2 S) hS q0 2 (f := fun j => S.2.2 k i j) ((mWl_at hq).trans (by rw [hB.2.2 E S])) rfl (vp_in_nI hj hB.2.1) hdg (fun H1 locs1 hP _ hS1 => kk H1 locs1 ?_ hS1)
  rw [nI_clamp hlt, mWl_J hO.1 hq (hB.2.2 E (mJ S k i j v) |>.trans (by rw [← mv_updJ]; rfl))] at hP
  exact hP
theorem mv_blen (Cx : CallFix p m c cc nL s args (cd :: mv_ws) own) (hG : mG E A s) (hH : mHold Y E S H) {k i n : Nat} (hB : mIsB Y k i n) (hdg : decode cc pc = .ok (.arraylength, 1))
    (kk : W p l e R s m args below meth c H locs cells slots Q (F0 m (pc + 1) ls (.int (nI n) :: rest))) : W p l e R s m args below meth c H locs cells slots Q (F0 m pc ls (.ref (Y.2.1 E k i) :: rest)) := by
  obtain ⟨q0, hq⟩ := mWl_find hB.1
  exact va_alen Cx.1 Cx.2.1 hG.1 hH q0 0 (x := (n, .inl (fun j => (S.2.1 k i j).toInt32))) ((mWl_at hq).trans (by rw [hB.2.2 E S])) (ty := .byte) rfl rfl hdg kk
theorem mv_ilen (Cx : CallFix p m c cc nL s args (cd :: mv_ws) own) (hG : mG E A s) (hH : mHold Y E S H) {k i n : Nat} (hB : mIsI Y k i n) (hdg : decode cc pc = .ok (.arraylength, 1))
    (kk : W p l e R s m args below meth c H locs cells slots Q (F0 m (pc + 1) ls (.int (nI n) :: rest))) : W p l e R s m args below meth c H locs cells slots Q (F0 m pc ls (.ref (Y.2.1 E k i) :: rest)) := by
  obtain ⟨q0, hq⟩ := mWl_find hB.1
  exact va_alen Cx.1 Cx.2.1 hG.1 hH q0 1 (x := (n, .inl (fun j => S.1 k i j))) ((mWl_at hq).trans (by rw [hB.2.2 E S])) (ty := .int) rfl rfl hdg kk
end MVR
end
section
/-! ===== rows: copies, static arrays, calls, the end of a method ===== -/
theorem mv_fitB (b : Int8) : fits .byte (.int b.toInt32) = true := by
  have h := pk_fb b.toInt32
  rwa [Int8.toInt8_toInt32] at h
section MVS
variable {p : Program} {l : Launch} {e : Env} {R : Room} {s : State} {m : MethodId} {args : Array Value} {below : List Frame} {meth : Method} {c : Code} {H : Heap} {locs : List Loc} {cells slots : Nat} {Q : State → Prop}
variable {cc : ByteArray} {pc nL : Nat} {ls : Array Slot} {rest : List Value} {A : Nat → Prop} {Y : mLY} {E : mEv} {S : mSt} {cd : Cond} {own : String}
theorem mv_cpb (Cx : CallFix p m c cc nL s args (cd :: mv_ws) own) (hG : mG E A s) (hO : mOwn Y E A) (hH : mHold Y E S H) (hS : va_S A s.heap H locs) {k0 i0 n0 k1 i1 n1 index : Nat} (hB0 : mIsB Y k0 i0 n0) (hB1 : mIsB Y k1 i1 n1) (sp dp n : Nat) {xs xd xn : Int32} (hxs : xs = nI sp) (hxd : xd = nI dp) (hxn : xn = nI n) (h0 : sp + n ≤ n0) (h1 : dp + n ≤ n1) (ql : Cond.methodLink own index arraycopyName ∈ mv_ws) (hsz : ls.size = nL) (hfr : 1 ≤ R.frames) (hlo : (rest.map fun v => v.category).sum + (nativeFrameWords "java/lang/System" "arraycopy" 5 + 11) ≤ R.locals) (hdg : decode cc pc = .ok (.invokestatic index, 3))
    (kk : ∀ (H1 : Heap) (locs1 : List Loc), mHold Y E (mAB S k1 i1 (va_cpy (S.2.1 k0 i0) (S.2.1 k1 i1) sp dp n)) H1 → va_S A s.heap H1 locs1 → W p l e R s m args below meth c H1 locs1 cells slots Q (F0 m (pc + 3) ls rest)) : W p l e R s m args below meth c H locs cells slots Q (F0 m pc ls (.int xn :: .int xd :: .ref (Y.2.1 E k1 i1) :: .int xs :: .ref (Y.2.1 E k0 i0) :: rest)) := by
  subst hxs; subst hxd; subst hxn
  obtain ⟨q0, hq0⟩ := mWl_find hB0.1
  obtain ⟨q1, hq1⟩ := mWl_find hB1.1
  have b0 := hB0.2.1
  have b1 := hB1.2.1
  have hw : ∀ {w : Cond}, w ∈ mv_ws → w.before args s = true := fun h => Cx.2.2.2.2 _ (List.mem_cons_of_mem _ h)
  have e1 : (nI sp).toNatClampNeg = sp := nI_clamp (by omega)
  have e2 : (nI dp).toNatClampNeg = dp := nI_clamp (by omega)
  have e3 : (nI n).toNatClampNeg = n := nI_clamp (by omega)
  refine va_copyi Cx.1 Cx.2.1 (Cx.2.2.1.trans hsz.symm) Cx.2.2.2.1 (hw ql) (hw q_na_arraycopy) (hw q_st_arraycopy) (hw q_in_J10) hG.1 hH (hO.2 S) hS q0 q1 0 0 (f := fun j => (S.2.1 k0 i0 j).toInt32) (g := fun j => (S.2.1 k1 i1 j).toInt32) (ty := .byte) ((mWl_at hq0).trans (by rw [hB0.2.2 E S])) ((mWl_at hq1).trans (by rw [hB1.2.2 E S])) rfl rfl rfl (nI_pos (by omega)) (nI_pos (by omega)) (nI_pos (by omega)) (by rw [e1, e3]; exact h0) (by rw [e2, e3]; exact h1) (fun i _ => mv_fitB _) hfr hlo hdg (fun H1 locs1 hP _ hS1 => kk H1 locs1 ?_ hS1)
  rw [e1, e2, e3] at hP
  rw [mWl_AB (g := va_cpy (S.2.1 k0 i0) (S.2.1 k1 i1) sp dp n) hO.1 hq1 (hB1.2.2 E _ |>.trans (by
    refine congrArg (fun f => (.inl (E.2.1 0, n1, .inl f) : va_E)) (funext fun j => ?_)
    simp only [mAB, mA, and_self, if_true, va_cpy]
    split <;> rfl))] at hP
  exact hP
/-- from a static array of ints -/
theorem mv_cpt (Cx : CallFix p m c cc nL s args (cd :: mv_ws) own) (hG : mG E A s) (hO : mOwn Y E A) (hH : mHold Y E S H) (hS : va_S A s.heap H locs) {t n0 k1 i1 n1 index : Nat} {f : Nat → Int32} (hT : va_T .int t n0 (fun j => .int (f j)) A s s.heap) (hB1 : mIsI Y k1 i1 n1) (n : Nat) {xs xd xn : Int32} (hxs : xs = 0) (hxd : xd = 0) (hxn : xn = nI n) (h0 : n ≤ n0) (h1 : n ≤ n1) (ql : Cond.methodLink own index arraycopyName ∈ mv_ws) (hsz : ls.size = nL) (hfr : 1 ≤ R.frames) (hlo : (rest.map fun v => v.category).sum + (nativeFrameWords "java/lang/System" "arraycopy" 5 + 11) ≤ R.locals) (hdg : decode cc pc = .ok (.invokestatic index, 3))
    (kk : ∀ (H1 : Heap) (locs1 : List Loc), mHold Y E (mAM S k1 i1 (va_cpy f (S.1 k1 i1) 0 0 n)) H1 → va_S A s.heap H1 locs1 → W p l e R s m args below meth c H1 locs1 cells slots Q (F0 m (pc + 3) ls rest)) : W p l e R s m args below meth c H locs cells slots Q (F0 m pc ls (.int xn :: .int xd :: .ref (Y.2.1 E k1 i1) :: .int xs :: .ref t :: rest)) := by
  subst hxs; subst hxd; subst hxn
  obtain ⟨q1, hq1⟩ := mWl_find hB1.1
  have b1 := hB1.2.1
  have hw : ∀ {w : Cond}, w ∈ mv_ws → w.before args s = true := fun h => Cx.2.2.2.2 _ (List.mem_cons_of_mem _ h)
  have e3 : (nI n).toNatClampNeg = n := nI_clamp (by omega)
  have e0 : (0 : Int32).toNatClampNeg = 0 := rfl
  have nn : ∀ z : Int32, ¬ z < 0 → z.toInt = (z.toNatClampNeg : Int) := by
    intro z hz
    have hz0 : (0 : Int) ≤ z.toInt := by
      have := Int32.not_lt.mp hz
      simpa using Int32.le_iff_toInt_le.mp this
    show z.toInt = ((z.toInt.toNat : Nat) : Int)
    omega
  have z0 : ¬ (0 : Int32) < 0 := by decide
  have zn : ¬ (nI n) < 0 := nI_pos (by omega)
  intro T hTT X
  obtain ⟨scr, hs1, hs2, hs3, hs4, -, hs5, hs7⟩ := hT
  have hc0 : H[t]? = some scr := by rw [hS.2.1 t (Array.getElem?_eq_some_iff.mp hs1).1 hs7]; exact hs1
  have ha1 : (mWl Y E S)[q1]? = some (Y.2.1 E k1 i1, .inl (E.2.1 1, n1, .inl (fun j => S.1 k1 i1 j))) := (mWl_at hq1).trans (by rw [hB1.2.2 E S])
  have hc1 : H[Y.2.1 E k1 i1]? = some (vp_cell (E.2.1 1) (n1, .inl (fun j => S.1 k1 i1 j))) := hH q1 _ ha1
  obtain ⟨hs6, k0, hk0, cm0, hkk0⟩ := hs2
  obtain ⟨-, k1', hk1, cm1, hkk1⟩ := (hG.1.2 1 _ rfl).1 n1 (fun j => .int (S.1 k1 i1 j))
  obtain ⟨vm', X', step⟩ := X.arraycopy Cx.1 Cx.2.2.2.1 (hw ql) (hw q_na_arraycopy) (hw q_st_arraycopy) (hw q_in_J10) (src := t) (dst := Y.2.1 E k1 i1) (cs := scr) (cd := vp_cell (E.2.1 1) (n1, .inl (fun j => S.1 k1 i1 j))) (srcPos := 0) (destPos := 0) (n := nI n) (by rw [hTT]; exact hc0) (by rw [hTT]; exact hc1)
    hs6 (fun _ h => by cases h) hs3 (fun h => by cases h) hk0 hk1 hkk0 hkk1 (by simp [refKind]) z0 z0 zn
    (by rw [nn 0 z0, nn _ zn, e0, e3]; omega)
    (by rw [nn 0 z0, nn _ zn, e0, e3]; show ¬ _ > ((arrV (E.2.1 1) n1 (fun j => .int (S.1 k1 i1 j))).slots.size : Int); rw [arrV_size]; omega)
    (fun vm₁ _ i hi => by
      rw [e3] at hi
      have ee : scr.slots.getD ((0 : Int32).toNatClampNeg + i) .null = .int (f i) := by
        rw [e0, Nat.zero_add, Array.getD_eq_getD_getElem?, hs5 _ (by omega)]
        rfl
      refine ⟨?_, ?_⟩
      · rw [ee]
        rfl
      · rw [ee]
        exact trivial)
    (g := F0 m pc ls (.int (nI n) :: .int 0 :: .ref (Y.2.1 E k1 i1) :: .int 0 :: .ref t :: rest)) rfl (by rw [Cx.2.2.1]; exact hsz) (rest := rest) rfl (by rw [Cx.2.1]; exact hdg) hfr (by show 2 * 0 + _ + _ ≤ _; omega)
  have e1 : copied scr (vp_cell (E.2.1 1) (n1, .inl (fun j => S.1 k1 i1 j))) 0 0 (nI n) = vp_cell (E.2.1 1) (n1, .inl (va_cpy f (fun j => S.1 k1 i1 j) 0 0 n)) := by
    have h8 := va_copiedX (fun z => .int z) scr (E.2.1 1) (n1 := n1) (sp := 0) (dp := 0) (n := n) f (fun j => S.1 k1 i1 j) hs5 (by omega)
    have h9 : copied scr (vp_cell (E.2.1 1) (n1, .inl (fun j => S.1 k1 i1 j))) 0 0 (nI n) = (arrV (E.2.1 1) n1 (fun j => .int (S.1 k1 i1 j))).storeRun 0 (scr.stretch 0 (nI n).toNatClampNeg) := rfl
    rw [h9, e3]
    exact h8
  rw [e1] at X' step
  have hl : Y.2.1 E k1 i1 < H.size := (Array.getElem?_eq_some_iff.mp hc1).1
  have hheap : ((T.setVm vm').setCell (Y.2.1 E k1 i1) (vp_cell (E.2.1 1) (n1, .inl (va_cpy f (fun j => S.1 k1 i1 j) 0 0 n)))).heap = H.setIfInBounds (Y.2.1 E k1 i1) (vp_cell (E.2.1 1) (n1, .inl (va_cpy f (fun j => S.1 k1 i1 j) 0 0 n))) := by rw [← hTT]; rfl
  have oq : ∀ q : Nat, q ≠ Y.2.1 E k1 i1 → (H.setIfInBounds (Y.2.1 E k1 i1) (vp_cell (E.2.1 1) (n1, .inl (va_cpy f (fun j => S.1 k1 i1 j) 0 0 n))))[q]? = H[q]? := fun q hq => by simp [Array.getElem?_setIfInBounds, Ne.symm hq]
  have hP := hH.set (hO.2 S) (e := .inl (E.2.1 1, n1, .inl (va_cpy f (fun j => S.1 k1 i1 j) 0 0 n))) ha1 (show (H.setIfInBounds (Y.2.1 E k1 i1) _)[Y.2.1 E k1 i1]? = some _ by simp [Array.getElem?_setIfInBounds, hl]) oq
  rw [mWl_AM (g := va_cpy f (S.1 k1 i1) 0 0 n) hO.1 hq1 (hB1.2.2 E _ |>.trans (by
    refine congrArg (fun f => (.inl (E.2.1 1, n1, .inl f) : va_E)) (funext fun j => ?_)
    simp only [mAM, mA, and_self, if_true]))] at hP
  obtain ⟨t2, a1, b1'⟩ := kk _ _ hP ⟨by simp; exact hS.1, fun q g1 g2 => by
      rw [oq q (fun e => g2 (by rw [e]; exact (hO.2 S).2 q1 _ ha1))]
      exact hS.2.1 q g1 g2, fun q hq => by
      rcases List.mem_append.mp hq with h | h
      · exact hS.2.2 q h
      · obtain ⟨z, -, hz⟩ := List.mem_map.mp h
        rw [← hz]
        exact (hO.2 S).2 q1 _ ha1⟩ _ hheap X'
  exact ⟨t2, step t2 a1, b1'⟩
theorem mv_sta (Cx : CallFix p m c cc nL s args (cd :: mv_ws) own) (hS : va_S A s.heap H locs) {C n : String} {t index : Nat} (hZ : va_Z C n "[I" (.ref t) A s s.heap) (ql : Cond.fieldLink own index C n "[I" ∈ mv_ws) (hdg : decode cc pc = .ok (.getstatic index, 3))
    (kk : W p l e R s m args below meth c H locs cells slots Q (F0 m (pc + 3) ls (.ref t :: rest))) : W p l e R s m args below meth c H locs cells slots Q (F0 m pc ls rest) :=
  va_gets Cx.1 Cx.2.1 hZ hS Cx.2.2.2.1 (Cx.2.2.2.2 _ (List.mem_cons_of_mem _ ql)) (fun _ h => h) hdg kk
theorem mv_stl (Cx : CallFix p m c cc nL s args (cd :: mv_ws) own) (hS : va_S A s.heap H locs) {t N : Nat} {f : Nat → Int32} (hT : va_T .int t N (fun j => .int (f j)) A s s.heap) (hN : N < 2 ^ 31) (j : Nat) {x : Int32} (hx : x = nI j) (hj : j < N) (hdg : decode cc pc = .ok (.iaload, 1))
    (kk : W p l e R s m args below meth c H locs cells slots Q (F0 m (pc + 1) ls (.int (f j) :: rest))) : W p l e R s m args below meth c H locs cells slots Q (F0 m pc ls (.int x :: .ref t :: rest)) := by
  subst hx
  exact va_ti Cx.1 Cx.2.1 hT hS (vp_in_nI hj hN) (by rw [nI_clamp (by omega)]) hdg kk
/-- behind a call -/
theorem mv_after {P : mSt → Prop} {v : Option Value} {st0 : List Value} {a : Array Value} (hr : va_Run p l e R s m args below meth c H locs cells slots 0 0 (F0 m pc ls st0) rest (mQ Y E A P v a) A) (hS : va_S A s.heap H locs)
    (kk : ∀ (S' : mSt) (H1 : Heap) (locs1 : List Loc), P S' → mHold Y E S' H1 → va_S A s.heap H1 locs1 → W p l e R s m args below meth c H1 locs1 cells slots Q (F0 m (pc + 3) ls (v.toList ++ rest))) : W p l e R s m args below meth c H locs cells slots Q (F0 m pc ls st0) := by
  intro T hT X
  obtain ⟨v', st₀, t, T', L, h0, X', hL, e1, e2, ⟨⟨hv, S', hps, hp⟩, hz, hk⟩, st⟩ := hr T hT X
  cases hv
  rw [h0] at hz hk
  obtain ⟨t2, a1, b1⟩ := kk S' T'.heap (locs ++ L) hps (by rw [e1]; exact hp)
    ⟨Nat.le_trans hS.1 (by rw [e1]; exact hz), fun q h1 h2 => by rw [e1, hk q (Nat.lt_of_lt_of_le h1 hS.1) h2]; exact hS.2.1 q h1 h2, fun q hq => by
      rcases List.mem_append.mp hq with h | h
      · exact hS.2.2 q h
      · exact hL q h⟩ T' rfl X'
  exact ⟨t2, st t2 a1, b1⟩
/-- an instance method of a class of ours, called by its own class's name -/
theorem mv_callV (Cx : CallFix p m c cc nL s args (cd :: mv_ws) own) (hG : mG E A s) (hH : mHold Y E S H) (hS : va_S A s.heap H locs) {C : String} {T : u_T} {N ci index k i d q maxL n : Nat} {y : MethodName} {bytes : ByteArray} {ret : Option FieldType} {fs : List Value} {P : mSt → Prop} {v : Option Value} {As : List Value}
    (hM : Met l y (Cond.code y bytes maxL ret :: mv_ws) (mRm d q) (mPc Y E A S (.ref (Y.2.1 E k i) :: As)) (mQ Y E A P v) 0 0 A) (qc : Cond.code y bytes maxL ret ∈ mv_ws) (ql : Cond.methodLink own index y ∈ mv_ws) (qi : Cond.instanceMethod y ∈ mv_ws) (qs : Cond.selects C y y ∈ mv_ws) (qn : Cond.initialized y.cls ∈ mv_ws)
    (hok : (k, i) ∈ Y.1) (he : Y.2.2 E S k i = .inr (ci, fs)) (hc : vwCl[ci]? = some (C, T, N)) (hd : y.cls ≠ "java/lang/invoke/MethodHandle" ∧ y.cls ≠ "java/lang/invoke/VarHandle" ∧ (parseMethodDescriptor y.desc).map (fun d => d.parameters.length) = some n) (hR : d + 1 ≤ R.frames ∧ 8 + (maxL + 11) + q ≤ R.locals) (hn : As.length = n) (hsz : ls.size = nL) {st0 : List Value} (hst : st0 = As.reverse ++ .ref (Y.2.1 E k i) :: rest) (hW : (rest.map fun v => v.category).sum ≤ 8) (hf : cells ≤ R.cells ∧ slots ≤ R.slots) (hdg : decode cc pc = .ok (.invokevirtual index, 3))
    (kk : ∀ (S' : mSt) (H1 : Heap) (locs1 : List Loc), P S' → mHold Y E S' H1 → va_S A s.heap H1 locs1 → W p l e R s m args below meth c H1 locs1 cells slots Q (F0 m (pc + 3) ls (v.toList ++ rest))) : W p l e R s m args below meth c H locs cells slots Q (F0 m pc ls st0) := by
  have hw : ∀ {w : Cond}, w ∈ mv_ws → w.before args s = true := fun h => Cx.2.2.2.2 _ (List.mem_cons_of_mem _ h)
  obtain ⟨q0, hq0⟩ := mWl_find hok
  refine mv_after (va_runV (As := As) (rest := rest) Cx hM ⟨callB_of n Cx.2.2.2.2 (mv_gi qc) rfl rfl rfl (hw qn) (hw ql) hd hR, hw qi, hw qs⟩ ⟨mPc.blind, va_recv hG.1 hH hc ((mWl_at hq0).trans (by rw [he])), fun U hU hWm => ⟨rfl, hG.go hS hU hWm, by rw [hU]; exact hH⟩⟩ rfl hn hsz hst (lv_room hW) hdg hf) hS kk
/-- a static method of a class of ours -/
theorem mv_callS (Cx : CallFix p m c cc nL s args (cd :: mv_ws) own) (hG : mG E A s) (hH : mHold Y E S H) (hS : va_S A s.heap H locs) {index d q maxL n : Nat} {y : MethodName} {bytes : ByteArray} {ret : Option FieldType} {P : mSt → Prop} {v : Option Value} {As : List Value}
    (hM : Met l y (Cond.code y bytes maxL ret :: mv_ws) (mRm d q) (mPc Y E A S As) (mQ Y E A P v) 0 0 A) (qc : Cond.code y bytes maxL ret ∈ mv_ws) (ql : Cond.methodLink own index y ∈ mv_ws) (qs : Cond.static y ∈ mv_ws) (qn : Cond.initialized y.cls ∈ mv_ws)
    (hd : y.cls ≠ "java/lang/invoke/MethodHandle" ∧ y.cls ≠ "java/lang/invoke/VarHandle" ∧ (parseMethodDescriptor y.desc).map (fun d => d.parameters.length) = some n) (hR : d + 1 ≤ R.frames ∧ 8 + (maxL + 11) + q ≤ R.locals) (hn : As.length = n) (hsz : ls.size = nL) {st0 : List Value} (hst : st0 = As.reverse ++ rest) (hW : (rest.map fun v => v.category).sum ≤ 8) (hf : cells ≤ R.cells ∧ slots ≤ R.slots) (hdg : decode cc pc = .ok (.invokestatic index, 3))
    (kk : ∀ (S' : mSt) (H1 : Heap) (locs1 : List Loc), P S' → mHold Y E S' H1 → va_S A s.heap H1 locs1 → W p l e R s m args below meth c H1 locs1 cells slots Q (F0 m (pc + 3) ls (v.toList ++ rest))) : W p l e R s m args below meth c H locs cells slots Q (F0 m pc ls st0) := by
  have hw : ∀ {w : Cond}, w ∈ mv_ws → w.before args s = true := fun h => Cx.2.2.2.2 _ (List.mem_cons_of_mem _ h)
  refine mv_after (va_runS (As := As) (rest := rest) Cx hM ⟨callB_of n Cx.2.2.2.2 (mv_gi qc) rfl rfl rfl (hw qn) (hw ql) hd hR, hw qs⟩ ⟨mPc.blind, fun U hU hWm => ⟨rfl, hG.go hS hU hWm, by rw [hU]; exact hH⟩⟩ rfl hn hsz hst (lv_room hW) hdg hf) hS kk
/-- ends -/
theorem mv_retv {P : mSt → Prop} (Cx : CallFix p m c cc nL s args (cd :: mv_ws) own) (hr : meth.sig.returnType = none) (hH : mHold Y E S H) (hS : va_S A s.heap H locs) (hE : P S) (hdg : decode cc pc = .ok (.return_, 1)) (hlocks : meth.locks = false) : W p l e R s m args below meth c H locs cells slots (MQ below (mQ Y E A P none) args s cells slots A) (F0 m pc ls []) := by
  exact W.vret Cx.1 Cx.2.1 hr (fun t ht _ => ⟨⟨rfl, S, hE, by rw [ht]; exact hH⟩, hS.F ht⟩) hS.2.2 hdg hlocks
theorem mv_reti {x x' : Int32} {P : mSt → Prop} (Cx : CallFix p m c cc nL s args (cd :: mv_ws) own) (hr : meth.sig.returnType = some .int) (hH : mHold Y E S H) (hS : va_S A s.heap H locs) (hx : x = x') (hE : P S) (hdg : decode cc pc = .ok (.ireturn, 1)) (hlocks : meth.locks = false) : W p l e R s m args below meth c H locs cells slots (MQ below (mQ Y E A P (some (.int x'))) args s cells slots A) (F0 m pc ls [.int x]) := by
  subst hx
  exact W.iret Cx.1 Cx.2.1 hr (fun t ht _ => ⟨⟨rfl, S, hE, by rw [ht]; exact hH⟩, hS.F ht⟩) hS.2.2 hdg hlocks
theorem mv_retz {x x' : Int32} {P : mSt → Prop} (Cx : CallFix p m c cc nL s args (cd :: mv_ws) own) (hr : meth.sig.returnType = some .boolean) (hH : mHold Y E S H) (hS : va_S A s.heap H locs) (hz : x = 0 ∨ x = 1) (hx : x = x') (hE : P S) (hdg : decode cc pc = .ok (.ireturn, 1)) (hlocks : meth.locks = false) : W p l e R s m args below meth c H locs cells slots (MQ below (mQ Y E A P (some (.int x'))) args s cells slots A) (F0 m pc ls [.int x]) := by
  subst hx
  exact W.zret Cx.1 Cx.2.1 hr (by rcases hz with h | h <;> (rw [h]; rfl)) (fun t ht _ => ⟨⟨rfl, S, hE, by rw [ht]; exact hH⟩, hS.F ht⟩) hS.2.2 hdg hlocks
theorem mv_retl {x x' : Int64} {P : mSt → Prop} (Cx : CallFix p m c cc nL s args (cd :: mv_ws) own) (hr : meth.sig.returnType = some .long) (hH : mHold Y E S H) (hS : va_S A s.heap H locs) (hx : x = x') (hE : P S) (hdg : decode cc pc = .ok (.lreturn, 1)) (hlocks : meth.locks = false) : W p l e R s m args below meth c H locs cells slots (MQ below (mQ Y E A P (some (.long x'))) args s cells slots A) (F0 m pc ls [.long x]) := by
  subst hx
  exact W.lret Cx.1 Cx.2.1 hr (fun t ht _ => ⟨⟨rfl, S, hE, by rw [ht]; exact hH⟩, hS.F ht⟩) hS.2.2 hdg hlocks
theorem mv_reta {v v' : Value} {rt : FieldType} {P : mSt → Prop} (Cx : CallFix p m c cc nL s args (cd :: mv_ws) own) (hr : meth.sig.returnType = some rt) (hrt : (∃ n, rt = .object n) ∨ ∃ t, rt = .array t) (hH : mHold Y E S H) (hS : va_S A s.heap H locs) (ha : v = .null ∨ ∃ a, v = .ref a) (hx : v = v') (hE : P S) (hdg : decode cc pc = .ok (.areturn, 1)) (hlocks : meth.locks = false) : W p l e R s m args below meth c H locs cells slots (MQ below (mQ Y E A P (some v')) args s cells slots A) (F0 m pc ls [v]) := by
  subst hx
  exact W.aret Cx.1 Cx.2.1 hr hrt ha (fun t ht _ => ⟨⟨rfl, S, hE, by rw [ht]; exact hH⟩, hS.F ht⟩) hS.2.2 hdg hlocks
theorem mv_eqi {x x' : Int32} (h : x = x') (k : W p l e R s m args below meth c H locs cells slots Q (F0 m pc ls (.int x' :: rest))) : W p l e R s m args below meth c H locs cells slots Q (F0 m pc ls (.int x :: rest)) := by
  subst h
  exact k
theorem mv_eql {x x' : Int64} (h : x = x') (k : W p l e R s m args below meth c H locs cells slots Q (F0 m pc ls (.long x' :: rest))) : W p l e R s m args below meth c H locs cells slots Q (F0 m pc ls (.long x :: rest)) := by
  subst h
  exact k
theorem mv_bas8 (Cx : CallFix p m c cc nL s args (cd :: mv_ws) own) (hG : mG E A s) (hO : mOwn Y E A) (hH : mHold Y E S H) (hS : va_S A s.heap H locs) {k i n : Nat} (hB : mIsB Y k i n) (j : Nat) {x v : Int32} (b : Int8) (hv : v = b.toInt32) (hx : x = nI j) (hj : j < n) (hdg : decode cc pc = .ok (.bastore, 1))
    (kk : ∀ (H1 : Heap) (locs1 : List Loc), mHold Y E (mB S k i j b) H1 → va_S A s.heap H1 locs1 → W p l e R s m args below meth c H1 locs1 cells slots Q (F0 m (pc + 1) ls rest)) : W p l e R s m args below meth c H locs cells slots Q (F0 m pc ls (.int v :: .int x :: .ref (Y.2.1 E k i) :: rest)) := by
  subst hv
  have h8 : b.toInt32.toInt8 = b := Int8.toInt8_toInt32 b
  exact mv_bas Cx hG hO hH hS hB j hx hj hdg (by rw [h8]; exact kk)
theorem mv_S {S' : mSt} (h : S = S') (hH : mHold Y E S H) : mHold Y E S' H := h ▸ hH
end MVS
end
section
/-! ===== the landed class: its cells ===== -/
def mPC : List (Nat × Nat) := [(0, 0), (1, 0), (2, 0), (2, 1), (2, 2), (2, 3), (2, 4), (2, 5), (2, 6), (2, 7), (2, 8), (2, 9), (2, 10), (2, 11), (2, 12), (2, 13), (2, 14), (3, 0), (3, 1), (3, 2), (3, 3), (3, 4), (3, 5), (3, 6), (3, 7), (3, 8), (3, 9), (3, 10), (3, 11), (3, 12), (3, 13), (3, 14), (4, 0), (5, 0), (6, 0), (7, 0), (8, 0), (9, 0), (10, 0), (11, 0), (12, 0), (13, 0), (14, 0), (15, 0), (16, 0), (17, 0), (18, 0), (19, 0), (19, 1), (19, 2), (19, 3), (20, 0), (20, 1), (20, 2), (20, 3), (21, 0), (22, 0), (22, 1), (22, 2), (22, 3), (22, 4), (22, 5), (22, 6), (22, 7), (22, 8), (22, 9), (22, 10), (22, 11), (23, 0), (23, 1), (23, 2), (23, 3), (23, 4), (23, 5), (23, 6), (23, 7), (23, 8), (23, 9), (23, 10), (23, 11), (24, 0), (24, 1), (24, 2), (24, 3), (24, 4), (24, 5), (24, 6), (24, 7), (24, 8), (24, 9), (24, 10), (24, 11), (25, 0), (26, 0), (26, 1), (26, 2), (26, 3), (26, 4), (26, 5), (26, 6), (26, 7)]
def mLn (i : Nat) : Nat := if i = 0 then 400 else if i = 1 then 229 else if i = 2 then 512 else if i < 7 then 128 else 64
def mOffB (i : Nat) : Nat := if i = 0 then 11 else if i = 1 then 13 else if i = 2 then 2 else if i < 7 then 35 + 5 * (i - 3) else 57 + 6 * (i - 7)
def mOffT (i : Nat) : Nat := if i < 4 then 32 + 5 * i else 54 + 6 * (i - 4)
/-- where a cell lies in the block -/
def mOff (k i : Nat) : Nat := match k with
  | 0 => 0
  | 1 => 1
  | 2 => mOffB i
  | 3 => mOffB i + 1
  | 4 => 4
  | 5 => 5
  | 6 => 6
  | 7 => 7
  | 8 => 8
  | 9 => 9
  | 10 => 10
  | 11 => 15
  | 12 => 16
  | 13 => 17
  | 14 => 18
  | 15 => 19
  | 16 => 20
  | 17 => 21
  | 18 => 22
  | 19 => 23 + 2 * i
  | 20 => 24 + 2 * i
  | 21 => 31
  | 22 => mOffT i
  | 23 => mOffT i + 1
  | 24 => mOffT i + 2
  | 25 => 52
  | _ => 53 + 6 * i
def mAdC (E : mEv) (k i : Nat) : Nat := E.2.2 + mOff k i
/-- what a cell holds -/
def mWC (E : mEv) (S : mSt) (k i : Nat) : va_E := match k with
  | 0 => .inr (7, [.ref (mAdC E 1 0), .ref (mAdC E 7 0), .ref (mAdC E 2 0), .ref (mAdC E 2 1), .ref (mAdC E 11 0), .ref (mAdC E 12 0), .ref (mAdC E 13 0), .ref (mAdC E 14 0), .ref (mAdC E 15 0), .ref (mAdC E 18 0), .ref (mAdC E 21 0), .ref (mAdC E 25 0), .long (S.2.2 0 i 12), .int (S.1 0 i 13), .int (S.1 0 i 14), .int (S.1 0 i 15)])
  | 1 => .inr (1, [.ref (mAdC E 2 2), .ref (mAdC E 4 0), .ref (mAdC E 5 0), .ref (mAdC E 6 0)])
  | 2 => .inr (0, [.ref (mAdC E 3 i), .int (S.1 2 i 1)])
  | 3 => .inl (E.2.1 0, mLn i, .inl (fun j => (S.2.1 3 i j).toInt32))
  | 4 => .inl (E.2.1 1, 8, .inl (fun j => S.1 4 i j))
  | 5 => .inl (E.2.1 1, 64, .inl (fun j => S.1 5 i j))
  | 6 => .inl (E.2.1 0, 32, .inl (fun j => (S.2.1 6 i j).toInt32))
  | 7 => .inr (3, [.ref (mAdC E 1 0), .ref (mAdC E 8 0), .ref (mAdC E 9 0), .ref (mAdC E 10 0), .int (S.1 7 i 4)])
  | 8 => .inl (E.2.1 0, 32, .inl (fun j => (S.2.1 8 i j).toInt32))
  | 9 => .inl (E.2.1 0, 32, .inl (fun j => (S.2.1 9 i j).toInt32))
  | 10 => .inl (E.2.1 0, 32, .inl (fun j => (S.2.1 10 i j).toInt32))
  | 11 => .inl (E.2.1 0, 32, .inl (fun j => (S.2.1 11 i j).toInt32))
  | 12 => .inl (E.2.1 0, 32, .inl (fun j => (S.2.1 12 i j).toInt32))
  | 13 => .inl (E.2.1 0, 32, .inl (fun j => (S.2.1 13 i j).toInt32))
  | 14 => .inl (E.2.1 0, 32, .inl (fun j => (S.2.1 14 i j).toInt32))
  | 15 => .inr (2, [.ref (mAdC E 16 0), .ref (mAdC E 17 0), .int (S.1 15 i 2)])
  | 16 => .inl (E.2.1 0, 256, .inl (fun j => (S.2.1 16 i j).toInt32))
  | 17 => .inl (E.2.1 0, 32, .inl (fun j => (S.2.1 17 i j).toInt32))
  | 18 => .inl (E.2.1 4, 4, .inr (.inr (.inr (.inr (fun j => some (mAdC E 19 j))))))
  | 19 => .inr (4, [.ref (mAdC E 20 i), .int (S.1 19 i 1), .int (S.1 19 i 2), .int (S.1 19 i 3), .int (S.1 19 i 4), .int (S.1 19 i 5), .int (S.1 19 i 6), .int (S.1 19 i 7)])
  | 20 => .inl (E.2.1 0, 32, .inl (fun j => (S.2.1 20 i j).toInt32))
  | 21 => .inl (E.2.1 5, 4, .inr (.inr (.inr (.inr (fun j => some (mAdC E 22 j))))))
  | 22 => .inr (5, [.ref (mAdC E 23 i), .ref (mAdC E 24 i), .ref (mAdC E 2 (3 + i)), .int (S.1 22 i 3)])
  | 23 => .inl (E.2.1 0, 32, .inl (fun j => (S.2.1 23 i j).toInt32))
  | 24 => .inl (E.2.1 0, 32, .inl (fun j => (S.2.1 24 i j).toInt32))
  | 25 => .inl (E.2.1 6, 8, .inr (.inr (.inr (.inr (fun j => some (mAdC E 26 j))))))
  | 26 => .inr (6, [.ref (mAdC E 22 (4 + i)), .int (S.1 26 i 1), .int (S.1 26 i 2), .int (S.1 26 i 3), .long (S.2.2 26 i 4)])
  | _ => .inr (0, [])
abbrev mLC : mLY := (mPC, mAdC, mWC)
theorem mGoodC : mGood mLC := by
  refine ⟨by decide +kernel, fun E S S' k i h1 h2 h3 => ?_⟩
  show mWC E S' k i = mWC E S k i
  match k with
  | 0 => simp only [mWC, h1, h2, h3]
  | 1 => simp only [mWC, h1, h2, h3]
  | 2 => simp only [mWC, h1, h2, h3]
  | 3 => simp only [mWC, h1, h2, h3]
  | 4 => simp only [mWC, h1, h2, h3]
  | 5 => simp only [mWC, h1, h2, h3]
  | 6 => simp only [mWC, h1, h2, h3]
  | 7 => simp only [mWC, h1, h2, h3]
  | 8 => simp only [mWC, h1, h2, h3]
  | 9 => simp only [mWC, h1, h2, h3]
  | 10 => simp only [mWC, h1, h2, h3]
  | 11 => simp only [mWC, h1, h2, h3]
  | 12 => simp only [mWC, h1, h2, h3]
  | 13 => simp only [mWC, h1, h2, h3]
  | 14 => simp only [mWC, h1, h2, h3]
  | 15 => simp only [mWC, h1, h2, h3]
  | 16 => simp only [mWC, h1, h2, h3]
  | 17 => simp only [mWC, h1, h2, h3]
  | 18 => simp only [mWC, h1, h2, h3]
  | 19 => simp only [mWC, h1, h2, h3]
  | 20 => simp only [mWC, h1, h2, h3]
  | 21 => simp only [mWC, h1, h2, h3]
  | 22 => simp only [mWC, h1, h2, h3]
  | 23 => simp only [mWC, h1, h2, h3]
  | 24 => simp only [mWC, h1, h2, h3]
  | 25 => simp only [mWC, h1, h2, h3]
  | 26 => simp only [mWC, h1, h2, h3]
  | _ + 27 => simp only [mWC]
theorem okC_0 : (0, 0) ∈ mLC.1 := by decide +kernel
theorem okC_1 : (1, 0) ∈ mLC.1 := by decide +kernel
theorem okC_2 {i : Nat} (h : i < 15) : (2, i) ∈ mLC.1 := (show ∀ i, i < 15 → (2, i) ∈ mPC by decide +kernel) i h
theorem okC_3 {i : Nat} (h : i < 15) : (3, i) ∈ mLC.1 := (show ∀ i, i < 15 → (3, i) ∈ mPC by decide +kernel) i h
theorem okC_4 : (4, 0) ∈ mLC.1 := by decide +kernel
theorem okC_5 : (5, 0) ∈ mLC.1 := by decide +kernel
theorem okC_6 : (6, 0) ∈ mLC.1 := by decide +kernel
theorem okC_7 : (7, 0) ∈ mLC.1 := by decide +kernel
theorem okC_8 : (8, 0) ∈ mLC.1 := by decide +kernel
theorem okC_9 : (9, 0) ∈ mLC.1 := by decide +kernel
theorem okC_10 : (10, 0) ∈ mLC.1 := by decide +kernel
theorem okC_11 : (11, 0) ∈ mLC.1 := by decide +kernel
theorem okC_12 : (12, 0) ∈ mLC.1 := by decide +kernel
theorem okC_13 : (13, 0) ∈ mLC.1 := by decide +kernel
theorem okC_14 : (14, 0) ∈ mLC.1 := by decide +kernel
theorem okC_15 : (15, 0) ∈ mLC.1 := by decide +kernel
theorem okC_16 : (16, 0) ∈ mLC.1 := by decide +kernel
theorem okC_17 : (17, 0) ∈ mLC.1 := by decide +kernel
theorem okC_18 : (18, 0) ∈ mLC.1 := by decide +kernel
theorem okC_19 {i : Nat} (h : i < 4) : (19, i) ∈ mLC.1 := (show ∀ i, i < 4 → (19, i) ∈ mPC by decide +kernel) i h
theorem okC_20 {i : Nat} (h : i < 4) : (20, i) ∈ mLC.1 := (show ∀ i, i < 4 → (20, i) ∈ mPC by decide +kernel) i h
theorem okC_21 : (21, 0) ∈ mLC.1 := by decide +kernel
theorem okC_22 {i : Nat} (h : i < 12) : (22, i) ∈ mLC.1 := (show ∀ i, i < 12 → (22, i) ∈ mPC by decide +kernel) i h
theorem okC_23 {i : Nat} (h : i < 12) : (23, i) ∈ mLC.1 := (show ∀ i, i < 12 → (23, i) ∈ mPC by decide +kernel) i h
theorem okC_24 {i : Nat} (h : i < 12) : (24, i) ∈ mLC.1 := (show ∀ i, i < 12 → (24, i) ∈ mPC by decide +kernel) i h
theorem okC_25 : (25, 0) ∈ mLC.1 := by decide +kernel
theorem okC_26 {i : Nat} (h : i < 8) : (26, i) ∈ mLC.1 := (show ∀ i, i < 8 → (26, i) ∈ mPC by decide +kernel) i h
theorem mLn_lt (i : Nat) : mLn i < 2 ^ 31 := by unfold mLn; (repeat' split) <;> decide
theorem isC_3 {i : Nat} (h : i < 15) : mIsB mLC 3 i (mLn i) := ⟨okC_3 h, mLn_lt i, fun _ _ => rfl⟩
theorem isC_6 : mIsB mLC 6 0 32 := ⟨okC_6, by decide, fun _ _ => rfl⟩
theorem isC_8 : mIsB mLC 8 0 32 := ⟨okC_8, by decide, fun _ _ => rfl⟩
theorem isC_9 : mIsB mLC 9 0 32 := ⟨okC_9, by decide, fun _ _ => rfl⟩
theorem isC_10 : mIsB mLC 10 0 32 := ⟨okC_10, by decide, fun _ _ => rfl⟩
theorem isC_11 : mIsB mLC 11 0 32 := ⟨okC_11, by decide, fun _ _ => rfl⟩
theorem isC_12 : mIsB mLC 12 0 32 := ⟨okC_12, by decide, fun _ _ => rfl⟩
theorem isC_13 : mIsB mLC 13 0 32 := ⟨okC_13, by decide, fun _ _ => rfl⟩
theorem isC_14 : mIsB mLC 14 0 32 := ⟨okC_14, by decide, fun _ _ => rfl⟩
theorem isC_16 : mIsB mLC 16 0 256 := ⟨okC_16, by decide, fun _ _ => rfl⟩
theorem isC_17 : mIsB mLC 17 0 32 := ⟨okC_17, by decide, fun _ _ => rfl⟩
theorem isC_20 {i : Nat} (h : i < 4) : mIsB mLC 20 i (32) := ⟨okC_20 h, by decide, fun _ _ => rfl⟩
theorem isC_23 {i : Nat} (h : i < 12) : mIsB mLC 23 i (32) := ⟨okC_23 h, by decide, fun _ _ => rfl⟩
theorem isC_24 {i : Nat} (h : i < 12) : mIsB mLC 24 i (32) := ⟨okC_24 h, by decide, fun _ _ => rfl⟩
theorem isC_4 : mIsI mLC 4 0 8 := ⟨okC_4, by decide, fun _ _ => rfl⟩
theorem isC_5 : mIsI mLC 5 0 64 := ⟨okC_5, by decide, fun _ _ => rfl⟩
end
section
section MVC
variable {p : Program} {l : Launch} {e : Env} {R : Room} {s : State} {m : MethodId} {args : Array Value} {below : List Frame} {meth : Method} {c : Code} {H : Heap} {locs : List Loc} {cells slots : Nat} {Q : State → Prop}
variable {cc : ByteArray} {pc nL index i : Nat} {ls : Array Slot} {rest : List Value} {A : Nat → Prop} {E : mEv} {S : mSt} {cd : Cond} {own : String}
theorem g_X7_hasher (Cx : CallFix p m c cc nL s args (cd :: mv_ws) own) (hG : mG E A s) (hH : mHold mLC E S H) (hl : Cond.fieldLink own index "MeasuredVault" "hasher" "LMeasuredVault$Hasher;" ∈ mv_ws) (hdg : decode cc pc = .ok (.getfield index, 3)) (kk : W p l e R s m args below meth c H locs cells slots Q (F0 m (pc + 3) ls (.ref (mAdC E 1 0) :: rest))) : W p l e R s m args below meth c H locs cells slots Q (F0 m pc ls (.ref (mAdC E 0 0) :: rest)) := mv_get (Y := mLC) Cx hG hH q_X7 0 0 okC_0 rfl rfl 0 (by decide) hl rfl hdg kk
theorem g_X7_secret (Cx : CallFix p m c cc nL s args (cd :: mv_ws) own) (hG : mG E A s) (hH : mHold mLC E S H) (hl : Cond.fieldLink own index "MeasuredVault" "secret" "LMeasuredVault$Secret;" ∈ mv_ws) (hdg : decode cc pc = .ok (.getfield index, 3)) (kk : W p l e R s m args below meth c H locs cells slots Q (F0 m (pc + 3) ls (.ref (mAdC E 7 0) :: rest))) : W p l e R s m args below meth c H locs cells slots Q (F0 m pc ls (.ref (mAdC E 0 0) :: rest)) := mv_get (Y := mLC) Cx hG hH q_X7 0 0 okC_0 rfl rfl 1 (by decide) hl rfl hdg kk
theorem g_X7_tape (Cx : CallFix p m c cc nL s args (cd :: mv_ws) own) (hG : mG E A s) (hH : mHold mLC E S H) (hl : Cond.fieldLink own index "MeasuredVault" "tape" "LMeasuredVault$Bytes;" ∈ mv_ws) (hdg : decode cc pc = .ok (.getfield index, 3)) (kk : W p l e R s m args below meth c H locs cells slots Q (F0 m (pc + 3) ls (.ref (mAdC E 2 0) :: rest))) : W p l e R s m args below meth c H locs cells slots Q (F0 m pc ls (.ref (mAdC E 0 0) :: rest)) := mv_get (Y := mLC) Cx hG hH q_X7 0 0 okC_0 rfl rfl 2 (by decide) hl rfl hdg kk
theorem g_X7_out (Cx : CallFix p m c cc nL s args (cd :: mv_ws) own) (hG : mG E A s) (hH : mHold mLC E S H) (hl : Cond.fieldLink own index "MeasuredVault" "out" "LMeasuredVault$Bytes;" ∈ mv_ws) (hdg : decode cc pc = .ok (.getfield index, 3)) (kk : W p l e R s m args below meth c H locs cells slots Q (F0 m (pc + 3) ls (.ref (mAdC E 2 1) :: rest))) : W p l e R s m args below meth c H locs cells slots Q (F0 m pc ls (.ref (mAdC E 0 0) :: rest)) := mv_get (Y := mLC) Cx hG hH q_X7 0 0 okC_0 rfl rfl 3 (by decide) hl rfl hdg kk
theorem g_X7_theKey (Cx : CallFix p m c cc nL s args (cd :: mv_ws) own) (hG : mG E A s) (hH : mHold mLC E S H) (hl : Cond.fieldLink own index "MeasuredVault" "theKey" "[B" ∈ mv_ws) (hdg : decode cc pc = .ok (.getfield index, 3)) (kk : W p l e R s m args below meth c H locs cells slots Q (F0 m (pc + 3) ls (.ref (mAdC E 11 0) :: rest))) : W p l e R s m args below meth c H locs cells slots Q (F0 m pc ls (.ref (mAdC E 0 0) :: rest)) := mv_get (Y := mLC) Cx hG hH q_X7 0 0 okC_0 rfl rfl 4 (by decide) hl rfl hdg kk
theorem g_X7_ownerAuth (Cx : CallFix p m c cc nL s args (cd :: mv_ws) own) (hG : mG E A s) (hH : mHold mLC E S H) (hl : Cond.fieldLink own index "MeasuredVault" "ownerAuth" "[B" ∈ mv_ws) (hdg : decode cc pc = .ok (.getfield index, 3)) (kk : W p l e R s m args below meth c H locs cells slots Q (F0 m (pc + 3) ls (.ref (mAdC E 12 0) :: rest))) : W p l e R s m args below meth c H locs cells slots Q (F0 m pc ls (.ref (mAdC E 0 0) :: rest)) := mv_get (Y := mLC) Cx hG hH q_X7 0 0 okC_0 rfl rfl 5 (by decide) hl rfl hdg kk
theorem g_X7_noPolicy (Cx : CallFix p m c cc nL s args (cd :: mv_ws) own) (hG : mG E A s) (hH : mHold mLC E S H) (hl : Cond.fieldLink own index "MeasuredVault" "noPolicy" "[B" ∈ mv_ws) (hdg : decode cc pc = .ok (.getfield index, 3)) (kk : W p l e R s m args below meth c H locs cells slots Q (F0 m (pc + 3) ls (.ref (mAdC E 13 0) :: rest))) : W p l e R s m args below meth c H locs cells slots Q (F0 m pc ls (.ref (mAdC E 0 0) :: rest)) := mv_get (Y := mLC) Cx hG hH q_X7 0 0 okC_0 rfl rfl 6 (by decide) hl rfl hdg kk
theorem g_X7_scratch (Cx : CallFix p m c cc nL s args (cd :: mv_ws) own) (hG : mG E A s) (hH : mHold mLC E S H) (hl : Cond.fieldLink own index "MeasuredVault" "scratch" "[B" ∈ mv_ws) (hdg : decode cc pc = .ok (.getfield index, 3)) (kk : W p l e R s m args below meth c H locs cells slots Q (F0 m (pc + 3) ls (.ref (mAdC E 14 0) :: rest))) : W p l e R s m args below meth c H locs cells slots Q (F0 m pc ls (.ref (mAdC E 0 0) :: rest)) := mv_get (Y := mLC) Cx hG hH q_X7 0 0 okC_0 rfl rfl 7 (by decide) hl rfl hdg kk
theorem g_X7_registers (Cx : CallFix p m c cc nL s args (cd :: mv_ws) own) (hG : mG E A s) (hH : mHold mLC E S H) (hl : Cond.fieldLink own index "MeasuredVault" "registers" "LMeasuredVault$Registers;" ∈ mv_ws) (hdg : decode cc pc = .ok (.getfield index, 3)) (kk : W p l e R s m args below meth c H locs cells slots Q (F0 m (pc + 3) ls (.ref (mAdC E 15 0) :: rest))) : W p l e R s m args below meth c H locs cells slots Q (F0 m pc ls (.ref (mAdC E 0 0) :: rest)) := mv_get (Y := mLC) Cx hG hH q_X7 0 0 okC_0 rfl rfl 8 (by decide) hl rfl hdg kk
theorem g_X7_sessions (Cx : CallFix p m c cc nL s args (cd :: mv_ws) own) (hG : mG E A s) (hH : mHold mLC E S H) (hl : Cond.fieldLink own index "MeasuredVault" "sessions" "[LMeasuredVault$Session;" ∈ mv_ws) (hdg : decode cc pc = .ok (.getfield index, 3)) (kk : W p l e R s m args below meth c H locs cells slots Q (F0 m (pc + 3) ls (.ref (mAdC E 18 0) :: rest))) : W p l e R s m args below meth c H locs cells slots Q (F0 m pc ls (.ref (mAdC E 0 0) :: rest)) := mv_get (Y := mLC) Cx hG hH q_X7 0 0 okC_0 rfl rfl 9 (by decide) hl rfl hdg kk
theorem g_X7_objects (Cx : CallFix p m c cc nL s args (cd :: mv_ws) own) (hG : mG E A s) (hH : mHold mLC E S H) (hl : Cond.fieldLink own index "MeasuredVault" "objects" "[LMeasuredVault$Thing;" ∈ mv_ws) (hdg : decode cc pc = .ok (.getfield index, 3)) (kk : W p l e R s m args below meth c H locs cells slots Q (F0 m (pc + 3) ls (.ref (mAdC E 21 0) :: rest))) : W p l e R s m args below meth c H locs cells slots Q (F0 m pc ls (.ref (mAdC E 0 0) :: rest)) := mv_get (Y := mLC) Cx hG hH q_X7 0 0 okC_0 rfl rfl 10 (by decide) hl rfl hdg kk
theorem g_X7_values (Cx : CallFix p m c cc nL s args (cd :: mv_ws) own) (hG : mG E A s) (hH : mHold mLC E S H) (hl : Cond.fieldLink own index "MeasuredVault" "values" "[LMeasuredVault$Value;" ∈ mv_ws) (hdg : decode cc pc = .ok (.getfield index, 3)) (kk : W p l e R s m args below meth c H locs cells slots Q (F0 m (pc + 3) ls (.ref (mAdC E 25 0) :: rest))) : W p l e R s m args below meth c H locs cells slots Q (F0 m pc ls (.ref (mAdC E 0 0) :: rest)) := mv_get (Y := mLC) Cx hG hH q_X7 0 0 okC_0 rfl rfl 11 (by decide) hl rfl hdg kk
theorem g_X7_greatest (Cx : CallFix p m c cc nL s args (cd :: mv_ws) own) (hG : mG E A s) (hH : mHold mLC E S H) (hl : Cond.fieldLink own index "MeasuredVault" "greatest" "J" ∈ mv_ws) (hdg : decode cc pc = .ok (.getfield index, 3)) (kk : W p l e R s m args below meth c H locs cells slots Q (F0 m (pc + 3) ls (.long (S.2.2 0 0 12) :: rest))) : W p l e R s m args below meth c H locs cells slots Q (F0 m pc ls (.ref (mAdC E 0 0) :: rest)) := mv_get (Y := mLC) Cx hG hH q_X7 0 0 okC_0 rfl rfl 12 (by decide) hl rfl hdg kk
theorem p_X7_greatest {v : Int64} (Cx : CallFix p m c cc nL s args (cd :: mv_ws) own) (hG : mG E A s) (hO : mOwn mLC E A) (hH : mHold mLC E S H) (hS : va_S A s.heap H locs) (hl : Cond.fieldLink own index "MeasuredVault" "greatest" "J" ∈ mv_ws) (hdg : decode cc pc = .ok (.putfield index, 3)) (kk : ∀ (H1 : Heap) (locs1 : List Loc), mHold mLC E (mJ S 0 0 12 v) H1 → va_S A s.heap H1 locs1 → W p l e R s m args below meth c H1 locs1 cells slots Q (F0 m (pc + 3) ls rest)) : W p l e R s m args below meth c H locs cells slots Q (F0 m pc ls (.long v :: .ref (mAdC E 0 0) :: rest)) := mv_putJ (Y := mLC) Cx hG hO hH hS q_X7 tyX7 tyX7_ok nmX7 0 0 okC_0 rfl rfl 12 (by decide) hl rfl (ty := .long) (by decide +kernel) rfl rfl (Nat.le_of_ble_eq_true rfl) (by simp [mWC, mJ, m3]) hdg kk
theorem g_X7_clock (Cx : CallFix p m c cc nL s args (cd :: mv_ws) own) (hG : mG E A s) (hH : mHold mLC E S H) (hl : Cond.fieldLink own index "MeasuredVault" "clock" "I" ∈ mv_ws) (hdg : decode cc pc = .ok (.getfield index, 3)) (kk : W p l e R s m args below meth c H locs cells slots Q (F0 m (pc + 3) ls (.int (S.1 0 0 13) :: rest))) : W p l e R s m args below meth c H locs cells slots Q (F0 m pc ls (.ref (mAdC E 0 0) :: rest)) := mv_get (Y := mLC) Cx hG hH q_X7 0 0 okC_0 rfl rfl 13 (by decide) hl rfl hdg kk
theorem p_X7_clock {v : Int32} (Cx : CallFix p m c cc nL s args (cd :: mv_ws) own) (hG : mG E A s) (hO : mOwn mLC E A) (hH : mHold mLC E S H) (hS : va_S A s.heap H locs) (hl : Cond.fieldLink own index "MeasuredVault" "clock" "I" ∈ mv_ws) (hdg : decode cc pc = .ok (.putfield index, 3)) (kk : ∀ (H1 : Heap) (locs1 : List Loc), mHold mLC E (mM S 0 0 13 v) H1 → va_S A s.heap H1 locs1 → W p l e R s m args below meth c H1 locs1 cells slots Q (F0 m (pc + 3) ls rest)) : W p l e R s m args below meth c H locs cells slots Q (F0 m pc ls (.int v :: .ref (mAdC E 0 0) :: rest)) := mv_putM (Y := mLC) Cx hG hO hH hS q_X7 tyX7 tyX7_ok nmX7 0 0 okC_0 rfl rfl 13 (by decide) hl rfl (ty := .int) (by decide +kernel) rfl rfl (Nat.le_of_ble_eq_true rfl) (by simp [mWC, mM, m3]) hdg kk
theorem g_X7_restarts (Cx : CallFix p m c cc nL s args (cd :: mv_ws) own) (hG : mG E A s) (hH : mHold mLC E S H) (hl : Cond.fieldLink own index "MeasuredVault" "restarts" "I" ∈ mv_ws) (hdg : decode cc pc = .ok (.getfield index, 3)) (kk : W p l e R s m args below meth c H locs cells slots Q (F0 m (pc + 3) ls (.int (S.1 0 0 14) :: rest))) : W p l e R s m args below meth c H locs cells slots Q (F0 m pc ls (.ref (mAdC E 0 0) :: rest)) := mv_get (Y := mLC) Cx hG hH q_X7 0 0 okC_0 rfl rfl 14 (by decide) hl rfl hdg kk
theorem p_X7_restarts {v : Int32} (Cx : CallFix p m c cc nL s args (cd :: mv_ws) own) (hG : mG E A s) (hO : mOwn mLC E A) (hH : mHold mLC E S H) (hS : va_S A s.heap H locs) (hl : Cond.fieldLink own index "MeasuredVault" "restarts" "I" ∈ mv_ws) (hdg : decode cc pc = .ok (.putfield index, 3)) (kk : ∀ (H1 : Heap) (locs1 : List Loc), mHold mLC E (mM S 0 0 14 v) H1 → va_S A s.heap H1 locs1 → W p l e R s m args below meth c H1 locs1 cells slots Q (F0 m (pc + 3) ls rest)) : W p l e R s m args below meth c H locs cells slots Q (F0 m pc ls (.int v :: .ref (mAdC E 0 0) :: rest)) := mv_putM (Y := mLC) Cx hG hO hH hS q_X7 tyX7 tyX7_ok nmX7 0 0 okC_0 rfl rfl 14 (by decide) hl rfl (ty := .int) (by decide +kernel) rfl rfl (Nat.le_of_ble_eq_true rfl) (by simp [mWC, mM, m3]) hdg kk
theorem g_X7_failures (Cx : CallFix p m c cc nL s args (cd :: mv_ws) own) (hG : mG E A s) (hH : mHold mLC E S H) (hl : Cond.fieldLink own index "MeasuredVault" "failures" "I" ∈ mv_ws) (hdg : decode cc pc = .ok (.getfield index, 3)) (kk : W p l e R s m args below meth c H locs cells slots Q (F0 m (pc + 3) ls (.int (S.1 0 0 15) :: rest))) : W p l e R s m args below meth c H locs cells slots Q (F0 m pc ls (.ref (mAdC E 0 0) :: rest)) := mv_get (Y := mLC) Cx hG hH q_X7 0 0 okC_0 rfl rfl 15 (by decide) hl rfl hdg kk
theorem p_X7_failures {v : Int32} (Cx : CallFix p m c cc nL s args (cd :: mv_ws) own) (hG : mG E A s) (hO : mOwn mLC E A) (hH : mHold mLC E S H) (hS : va_S A s.heap H locs) (hl : Cond.fieldLink own index "MeasuredVault" "failures" "I" ∈ mv_ws) (hdg : decode cc pc = .ok (.putfield index, 3)) (kk : ∀ (H1 : Heap) (locs1 : List Loc), mHold mLC E (mM S 0 0 15 v) H1 → va_S A s.heap H1 locs1 → W p l e R s m args below meth c H1 locs1 cells slots Q (F0 m (pc + 3) ls rest)) : W p l e R s m args below meth c H locs cells slots Q (F0 m pc ls (.int v :: .ref (mAdC E 0 0) :: rest)) := mv_putM (Y := mLC) Cx hG hO hH hS q_X7 tyX7 tyX7_ok nmX7 0 0 okC_0 rfl rfl 15 (by decide) hl rfl (ty := .int) (by decide +kernel) rfl rfl (Nat.le_of_ble_eq_true rfl) (by simp [mWC, mM, m3]) hdg kk
theorem g_X1_message (Cx : CallFix p m c cc nL s args (cd :: mv_ws) own) (hG : mG E A s) (hH : mHold mLC E S H) (hl : Cond.fieldLink own index "MeasuredVault$Hasher" "message" "LMeasuredVault$Bytes;" ∈ mv_ws) (hdg : decode cc pc = .ok (.getfield index, 3)) (kk : W p l e R s m args below meth c H locs cells slots Q (F0 m (pc + 3) ls (.ref (mAdC E 2 2) :: rest))) : W p l e R s m args below meth c H locs cells slots Q (F0 m pc ls (.ref (mAdC E 1 0) :: rest)) := mv_get (Y := mLC) Cx hG hH q_X1 1 0 okC_1 rfl rfl 0 (by decide) hl rfl hdg kk
theorem g_X1_sum (Cx : CallFix p m c cc nL s args (cd :: mv_ws) own) (hG : mG E A s) (hH : mHold mLC E S H) (hl : Cond.fieldLink own index "MeasuredVault$Hasher" "sum" "[I" ∈ mv_ws) (hdg : decode cc pc = .ok (.getfield index, 3)) (kk : W p l e R s m args below meth c H locs cells slots Q (F0 m (pc + 3) ls (.ref (mAdC E 4 0) :: rest))) : W p l e R s m args below meth c H locs cells slots Q (F0 m pc ls (.ref (mAdC E 1 0) :: rest)) := mv_get (Y := mLC) Cx hG hH q_X1 1 0 okC_1 rfl rfl 1 (by decide) hl rfl hdg kk
theorem g_X1_words (Cx : CallFix p m c cc nL s args (cd :: mv_ws) own) (hG : mG E A s) (hH : mHold mLC E S H) (hl : Cond.fieldLink own index "MeasuredVault$Hasher" "words" "[I" ∈ mv_ws) (hdg : decode cc pc = .ok (.getfield index, 3)) (kk : W p l e R s m args below meth c H locs cells slots Q (F0 m (pc + 3) ls (.ref (mAdC E 5 0) :: rest))) : W p l e R s m args below meth c H locs cells slots Q (F0 m pc ls (.ref (mAdC E 1 0) :: rest)) := mv_get (Y := mLC) Cx hG hH q_X1 1 0 okC_1 rfl rfl 2 (by decide) hl rfl hdg kk
theorem g_X1_innerHash (Cx : CallFix p m c cc nL s args (cd :: mv_ws) own) (hG : mG E A s) (hH : mHold mLC E S H) (hl : Cond.fieldLink own index "MeasuredVault$Hasher" "innerHash" "[B" ∈ mv_ws) (hdg : decode cc pc = .ok (.getfield index, 3)) (kk : W p l e R s m args below meth c H locs cells slots Q (F0 m (pc + 3) ls (.ref (mAdC E 6 0) :: rest))) : W p l e R s m args below meth c H locs cells slots Q (F0 m pc ls (.ref (mAdC E 1 0) :: rest)) := mv_get (Y := mLC) Cx hG hH q_X1 1 0 okC_1 rfl rfl 3 (by decide) hl rfl hdg kk
theorem g_X0_held (Cx : CallFix p m c cc nL s args (cd :: mv_ws) own) (hG : mG E A s) (hH : mHold mLC E S H) (hok : i < 15) (hl : Cond.fieldLink own index "MeasuredVault$Bytes" "held" "[B" ∈ mv_ws) (hdg : decode cc pc = .ok (.getfield index, 3)) (kk : W p l e R s m args below meth c H locs cells slots Q (F0 m (pc + 3) ls (.ref (mAdC E 3 i) :: rest))) : W p l e R s m args below meth c H locs cells slots Q (F0 m pc ls (.ref (mAdC E 2 i) :: rest)) := mv_get (Y := mLC) Cx hG hH q_X0 2 i (okC_2 hok) rfl rfl 0 (by decide) hl rfl hdg kk
theorem g_X0_size (Cx : CallFix p m c cc nL s args (cd :: mv_ws) own) (hG : mG E A s) (hH : mHold mLC E S H) (hok : i < 15) (hl : Cond.fieldLink own index "MeasuredVault$Bytes" "size" "I" ∈ mv_ws) (hdg : decode cc pc = .ok (.getfield index, 3)) (kk : W p l e R s m args below meth c H locs cells slots Q (F0 m (pc + 3) ls (.int (S.1 2 i 1) :: rest))) : W p l e R s m args below meth c H locs cells slots Q (F0 m pc ls (.ref (mAdC E 2 i) :: rest)) := mv_get (Y := mLC) Cx hG hH q_X0 2 i (okC_2 hok) rfl rfl 1 (by decide) hl rfl hdg kk
theorem p_X0_size {v : Int32} (Cx : CallFix p m c cc nL s args (cd :: mv_ws) own) (hG : mG E A s) (hO : mOwn mLC E A) (hH : mHold mLC E S H) (hS : va_S A s.heap H locs) (hok : i < 15) (hl : Cond.fieldLink own index "MeasuredVault$Bytes" "size" "I" ∈ mv_ws) (hdg : decode cc pc = .ok (.putfield index, 3)) (kk : ∀ (H1 : Heap) (locs1 : List Loc), mHold mLC E (mM S 2 i 1 v) H1 → va_S A s.heap H1 locs1 → W p l e R s m args below meth c H1 locs1 cells slots Q (F0 m (pc + 3) ls rest)) : W p l e R s m args below meth c H locs cells slots Q (F0 m pc ls (.int v :: .ref (mAdC E 2 i) :: rest)) := mv_putM (Y := mLC) Cx hG hO hH hS q_X0 tyX0 tyX0_ok nmX0 2 i (okC_2 hok) rfl rfl 1 (by decide) hl rfl (ty := .int) (by decide +kernel) rfl rfl (Nat.le_of_ble_eq_true rfl) (by simp [mWC, mM, m3]) hdg kk
theorem g_X3_hasher (Cx : CallFix p m c cc nL s args (cd :: mv_ws) own) (hG : mG E A s) (hH : mHold mLC E S H) (hl : Cond.fieldLink own index "MeasuredVault$Secret" "hasher" "LMeasuredVault$Hasher;" ∈ mv_ws) (hdg : decode cc pc = .ok (.getfield index, 3)) (kk : W p l e R s m args below meth c H locs cells slots Q (F0 m (pc + 3) ls (.ref (mAdC E 1 0) :: rest))) : W p l e R s m args below meth c H locs cells slots Q (F0 m pc ls (.ref (mAdC E 7 0) :: rest)) := mv_get (Y := mLC) Cx hG hH q_X3 7 0 okC_7 rfl rfl 0 (by decide) hl rfl hdg kk
theorem g_X3_seed (Cx : CallFix p m c cc nL s args (cd :: mv_ws) own) (hG : mG E A s) (hH : mHold mLC E S H) (hl : Cond.fieldLink own index "MeasuredVault$Secret" "seed" "[B" ∈ mv_ws) (hdg : decode cc pc = .ok (.getfield index, 3)) (kk : W p l e R s m args below meth c H locs cells slots Q (F0 m (pc + 3) ls (.ref (mAdC E 8 0) :: rest))) : W p l e R s m args below meth c H locs cells slots Q (F0 m pc ls (.ref (mAdC E 7 0) :: rest)) := mv_get (Y := mLC) Cx hG hH q_X3 7 0 okC_7 rfl rfl 1 (by decide) hl rfl hdg kk
theorem g_X3_derived (Cx : CallFix p m c cc nL s args (cd :: mv_ws) own) (hG : mG E A s) (hH : mHold mLC E S H) (hl : Cond.fieldLink own index "MeasuredVault$Secret" "derived" "[B" ∈ mv_ws) (hdg : decode cc pc = .ok (.getfield index, 3)) (kk : W p l e R s m args below meth c H locs cells slots Q (F0 m (pc + 3) ls (.ref (mAdC E 9 0) :: rest))) : W p l e R s m args below meth c H locs cells slots Q (F0 m pc ls (.ref (mAdC E 7 0) :: rest)) := mv_get (Y := mLC) Cx hG hH q_X3 7 0 okC_7 rfl rfl 2 (by decide) hl rfl hdg kk
theorem g_X3_mark (Cx : CallFix p m c cc nL s args (cd :: mv_ws) own) (hG : mG E A s) (hH : mHold mLC E S H) (hl : Cond.fieldLink own index "MeasuredVault$Secret" "mark" "[B" ∈ mv_ws) (hdg : decode cc pc = .ok (.getfield index, 3)) (kk : W p l e R s m args below meth c H locs cells slots Q (F0 m (pc + 3) ls (.ref (mAdC E 10 0) :: rest))) : W p l e R s m args below meth c H locs cells slots Q (F0 m pc ls (.ref (mAdC E 7 0) :: rest)) := mv_get (Y := mLC) Cx hG hH q_X3 7 0 okC_7 rfl rfl 3 (by decide) hl rfl hdg kk
theorem g_X3_blobsMade (Cx : CallFix p m c cc nL s args (cd :: mv_ws) own) (hG : mG E A s) (hH : mHold mLC E S H) (hl : Cond.fieldLink own index "MeasuredVault$Secret" "blobsMade" "I" ∈ mv_ws) (hdg : decode cc pc = .ok (.getfield index, 3)) (kk : W p l e R s m args below meth c H locs cells slots Q (F0 m (pc + 3) ls (.int (S.1 7 0 4) :: rest))) : W p l e R s m args below meth c H locs cells slots Q (F0 m pc ls (.ref (mAdC E 7 0) :: rest)) := mv_get (Y := mLC) Cx hG hH q_X3 7 0 okC_7 rfl rfl 4 (by decide) hl rfl hdg kk
theorem p_X3_blobsMade {v : Int32} (Cx : CallFix p m c cc nL s args (cd :: mv_ws) own) (hG : mG E A s) (hO : mOwn mLC E A) (hH : mHold mLC E S H) (hS : va_S A s.heap H locs) (hl : Cond.fieldLink own index "MeasuredVault$Secret" "blobsMade" "I" ∈ mv_ws) (hdg : decode cc pc = .ok (.putfield index, 3)) (kk : ∀ (H1 : Heap) (locs1 : List Loc), mHold mLC E (mM S 7 0 4 v) H1 → va_S A s.heap H1 locs1 → W p l e R s m args below meth c H1 locs1 cells slots Q (F0 m (pc + 3) ls rest)) : W p l e R s m args below meth c H locs cells slots Q (F0 m pc ls (.int v :: .ref (mAdC E 7 0) :: rest)) := mv_putM (Y := mLC) Cx hG hO hH hS q_X3 tyX3 tyX3_ok nmX3 7 0 okC_7 rfl rfl 4 (by decide) hl rfl (ty := .int) (by decide +kernel) rfl rfl (Nat.le_of_ble_eq_true rfl) (by simp [mWC, mM, m3]) hdg kk
theorem g_X2_row (Cx : CallFix p m c cc nL s args (cd :: mv_ws) own) (hG : mG E A s) (hH : mHold mLC E S H) (hl : Cond.fieldLink own index "MeasuredVault$Registers" "row" "[B" ∈ mv_ws) (hdg : decode cc pc = .ok (.getfield index, 3)) (kk : W p l e R s m args below meth c H locs cells slots Q (F0 m (pc + 3) ls (.ref (mAdC E 16 0) :: rest))) : W p l e R s m args below meth c H locs cells slots Q (F0 m pc ls (.ref (mAdC E 15 0) :: rest)) := mv_get (Y := mLC) Cx hG hH q_X2 15 0 okC_15 rfl rfl 0 (by decide) hl rfl hdg kk
theorem g_X2_one (Cx : CallFix p m c cc nL s args (cd :: mv_ws) own) (hG : mG E A s) (hH : mHold mLC E S H) (hl : Cond.fieldLink own index "MeasuredVault$Registers" "one" "[B" ∈ mv_ws) (hdg : decode cc pc = .ok (.getfield index, 3)) (kk : W p l e R s m args below meth c H locs cells slots Q (F0 m (pc + 3) ls (.ref (mAdC E 17 0) :: rest))) : W p l e R s m args below meth c H locs cells slots Q (F0 m pc ls (.ref (mAdC E 15 0) :: rest)) := mv_get (Y := mLC) Cx hG hH q_X2 15 0 okC_15 rfl rfl 1 (by decide) hl rfl hdg kk
theorem g_X2_changes (Cx : CallFix p m c cc nL s args (cd :: mv_ws) own) (hG : mG E A s) (hH : mHold mLC E S H) (hl : Cond.fieldLink own index "MeasuredVault$Registers" "changes" "I" ∈ mv_ws) (hdg : decode cc pc = .ok (.getfield index, 3)) (kk : W p l e R s m args below meth c H locs cells slots Q (F0 m (pc + 3) ls (.int (S.1 15 0 2) :: rest))) : W p l e R s m args below meth c H locs cells slots Q (F0 m pc ls (.ref (mAdC E 15 0) :: rest)) := mv_get (Y := mLC) Cx hG hH q_X2 15 0 okC_15 rfl rfl 2 (by decide) hl rfl hdg kk
theorem p_X2_changes {v : Int32} (Cx : CallFix p m c cc nL s args (cd :: mv_ws) own) (hG : mG E A s) (hO : mOwn mLC E A) (hH : mHold mLC E S H) (hS : va_S A s.heap H locs) (hl : Cond.fieldLink own index "MeasuredVault$Registers" "changes" "I" ∈ mv_ws) (hdg : decode cc pc = .ok (.putfield index, 3)) (kk : ∀ (H1 : Heap) (locs1 : List Loc), mHold mLC E (mM S 15 0 2 v) H1 → va_S A s.heap H1 locs1 → W p l e R s m args below meth c H1 locs1 cells slots Q (F0 m (pc + 3) ls rest)) : W p l e R s m args below meth c H locs cells slots Q (F0 m pc ls (.int v :: .ref (mAdC E 15 0) :: rest)) := mv_putM (Y := mLC) Cx hG hO hH hS q_X2 tyX2 tyX2_ok nmX2 15 0 okC_15 rfl rfl 2 (by decide) hl rfl (ty := .int) (by decide +kernel) rfl rfl (Nat.le_of_ble_eq_true rfl) (by simp [mWC, mM, m3]) hdg kk
theorem g_X4_digest (Cx : CallFix p m c cc nL s args (cd :: mv_ws) own) (hG : mG E A s) (hH : mHold mLC E S H) (hok : i < 4) (hl : Cond.fieldLink own index "MeasuredVault$Session" "digest" "[B" ∈ mv_ws) (hdg : decode cc pc = .ok (.getfield index, 3)) (kk : W p l e R s m args below meth c H locs cells slots Q (F0 m (pc + 3) ls (.ref (mAdC E 20 i) :: rest))) : W p l e R s m args below meth c H locs cells slots Q (F0 m pc ls (.ref (mAdC E 19 i) :: rest)) := mv_get (Y := mLC) Cx hG hH q_X4 19 i (okC_19 hok) rfl rfl 0 (by decide) hl rfl hdg kk
theorem g_X4_isOpen (Cx : CallFix p m c cc nL s args (cd :: mv_ws) own) (hG : mG E A s) (hH : mHold mLC E S H) (hok : i < 4) (hl : Cond.fieldLink own index "MeasuredVault$Session" "isOpen" "Z" ∈ mv_ws) (hdg : decode cc pc = .ok (.getfield index, 3)) (kk : W p l e R s m args below meth c H locs cells slots Q (F0 m (pc + 3) ls (.int (S.1 19 i 1) :: rest))) : W p l e R s m args below meth c H locs cells slots Q (F0 m pc ls (.ref (mAdC E 19 i) :: rest)) := mv_get (Y := mLC) Cx hG hH q_X4 19 i (okC_19 hok) rfl rfl 1 (by decide) hl rfl hdg kk
theorem p_X4_isOpen {v : Int32} (Cx : CallFix p m c cc nL s args (cd :: mv_ws) own) (hG : mG E A s) (hO : mOwn mLC E A) (hH : mHold mLC E S H) (hS : va_S A s.heap H locs) (hok : i < 4) (hv : v = 0 ∨ v = 1) (hl : Cond.fieldLink own index "MeasuredVault$Session" "isOpen" "Z" ∈ mv_ws) (hdg : decode cc pc = .ok (.putfield index, 3)) (kk : ∀ (H1 : Heap) (locs1 : List Loc), mHold mLC E (mM S 19 i 1 v) H1 → va_S A s.heap H1 locs1 → W p l e R s m args below meth c H1 locs1 cells slots Q (F0 m (pc + 3) ls rest)) : W p l e R s m args below meth c H locs cells slots Q (F0 m pc ls (.int v :: .ref (mAdC E 19 i) :: rest)) := mv_putM (Y := mLC) Cx hG hO hH hS q_X4 tyX4 tyX4_ok nmX4 19 i (okC_19 hok) rfl rfl 1 (by decide) hl rfl (ty := .boolean) (by decide +kernel) (by rcases hv with h | h <;> (rw [h]; rfl)) (by rcases hv with h | h <;> (rw [h]; rfl)) (Nat.le_of_ble_eq_true rfl) (by simp [mWC, mM, m3]) hdg kk
theorem g_X4_asksAuth (Cx : CallFix p m c cc nL s args (cd :: mv_ws) own) (hG : mG E A s) (hH : mHold mLC E S H) (hok : i < 4) (hl : Cond.fieldLink own index "MeasuredVault$Session" "asksAuth" "Z" ∈ mv_ws) (hdg : decode cc pc = .ok (.getfield index, 3)) (kk : W p l e R s m args below meth c H locs cells slots Q (F0 m (pc + 3) ls (.int (S.1 19 i 2) :: rest))) : W p l e R s m args below meth c H locs cells slots Q (F0 m pc ls (.ref (mAdC E 19 i) :: rest)) := mv_get (Y := mLC) Cx hG hH q_X4 19 i (okC_19 hok) rfl rfl 2 (by decide) hl rfl hdg kk
theorem p_X4_asksAuth {v : Int32} (Cx : CallFix p m c cc nL s args (cd :: mv_ws) own) (hG : mG E A s) (hO : mOwn mLC E A) (hH : mHold mLC E S H) (hS : va_S A s.heap H locs) (hok : i < 4) (hv : v = 0 ∨ v = 1) (hl : Cond.fieldLink own index "MeasuredVault$Session" "asksAuth" "Z" ∈ mv_ws) (hdg : decode cc pc = .ok (.putfield index, 3)) (kk : ∀ (H1 : Heap) (locs1 : List Loc), mHold mLC E (mM S 19 i 2 v) H1 → va_S A s.heap H1 locs1 → W p l e R s m args below meth c H1 locs1 cells slots Q (F0 m (pc + 3) ls rest)) : W p l e R s m args below meth c H locs cells slots Q (F0 m pc ls (.int v :: .ref (mAdC E 19 i) :: rest)) := mv_putM (Y := mLC) Cx hG hO hH hS q_X4 tyX4 tyX4_ok nmX4 19 i (okC_19 hok) rfl rfl 2 (by decide) hl rfl (ty := .boolean) (by decide +kernel) (by rcases hv with h | h <;> (rw [h]; rfl)) (by rcases hv with h | h <;> (rw [h]; rfl)) (Nat.le_of_ble_eq_true rfl) (by simp [mWC, mM, m3]) hdg kk
theorem g_X4_code (Cx : CallFix p m c cc nL s args (cd :: mv_ws) own) (hG : mG E A s) (hH : mHold mLC E S H) (hok : i < 4) (hl : Cond.fieldLink own index "MeasuredVault$Session" "code" "I" ∈ mv_ws) (hdg : decode cc pc = .ok (.getfield index, 3)) (kk : W p l e R s m args below meth c H locs cells slots Q (F0 m (pc + 3) ls (.int (S.1 19 i 3) :: rest))) : W p l e R s m args below meth c H locs cells slots Q (F0 m pc ls (.ref (mAdC E 19 i) :: rest)) := mv_get (Y := mLC) Cx hG hH q_X4 19 i (okC_19 hok) rfl rfl 3 (by decide) hl rfl hdg kk
theorem p_X4_code {v : Int32} (Cx : CallFix p m c cc nL s args (cd :: mv_ws) own) (hG : mG E A s) (hO : mOwn mLC E A) (hH : mHold mLC E S H) (hS : va_S A s.heap H locs) (hok : i < 4) (hl : Cond.fieldLink own index "MeasuredVault$Session" "code" "I" ∈ mv_ws) (hdg : decode cc pc = .ok (.putfield index, 3)) (kk : ∀ (H1 : Heap) (locs1 : List Loc), mHold mLC E (mM S 19 i 3 v) H1 → va_S A s.heap H1 locs1 → W p l e R s m args below meth c H1 locs1 cells slots Q (F0 m (pc + 3) ls rest)) : W p l e R s m args below meth c H locs cells slots Q (F0 m pc ls (.int v :: .ref (mAdC E 19 i) :: rest)) := mv_putM (Y := mLC) Cx hG hO hH hS q_X4 tyX4 tyX4_ok nmX4 19 i (okC_19 hok) rfl rfl 3 (by decide) hl rfl (ty := .int) (by decide +kernel) rfl rfl (Nat.le_of_ble_eq_true rfl) (by simp [mWC, mM, m3]) hdg kk
theorem g_X4_asksRegisters (Cx : CallFix p m c cc nL s args (cd :: mv_ws) own) (hG : mG E A s) (hH : mHold mLC E S H) (hok : i < 4) (hl : Cond.fieldLink own index "MeasuredVault$Session" "asksRegisters" "Z" ∈ mv_ws) (hdg : decode cc pc = .ok (.getfield index, 3)) (kk : W p l e R s m args below meth c H locs cells slots Q (F0 m (pc + 3) ls (.int (S.1 19 i 4) :: rest))) : W p l e R s m args below meth c H locs cells slots Q (F0 m pc ls (.ref (mAdC E 19 i) :: rest)) := mv_get (Y := mLC) Cx hG hH q_X4 19 i (okC_19 hok) rfl rfl 4 (by decide) hl rfl hdg kk
theorem p_X4_asksRegisters {v : Int32} (Cx : CallFix p m c cc nL s args (cd :: mv_ws) own) (hG : mG E A s) (hO : mOwn mLC E A) (hH : mHold mLC E S H) (hS : va_S A s.heap H locs) (hok : i < 4) (hv : v = 0 ∨ v = 1) (hl : Cond.fieldLink own index "MeasuredVault$Session" "asksRegisters" "Z" ∈ mv_ws) (hdg : decode cc pc = .ok (.putfield index, 3)) (kk : ∀ (H1 : Heap) (locs1 : List Loc), mHold mLC E (mM S 19 i 4 v) H1 → va_S A s.heap H1 locs1 → W p l e R s m args below meth c H1 locs1 cells slots Q (F0 m (pc + 3) ls rest)) : W p l e R s m args below meth c H locs cells slots Q (F0 m pc ls (.int v :: .ref (mAdC E 19 i) :: rest)) := mv_putM (Y := mLC) Cx hG hO hH hS q_X4 tyX4 tyX4_ok nmX4 19 i (okC_19 hok) rfl rfl 4 (by decide) hl rfl (ty := .boolean) (by decide +kernel) (by rcases hv with h | h <;> (rw [h]; rfl)) (by rcases hv with h | h <;> (rw [h]; rfl)) (Nat.le_of_ble_eq_true rfl) (by simp [mWC, mM, m3]) hdg kk
theorem g_X4_changesThen (Cx : CallFix p m c cc nL s args (cd :: mv_ws) own) (hG : mG E A s) (hH : mHold mLC E S H) (hok : i < 4) (hl : Cond.fieldLink own index "MeasuredVault$Session" "changesThen" "I" ∈ mv_ws) (hdg : decode cc pc = .ok (.getfield index, 3)) (kk : W p l e R s m args below meth c H locs cells slots Q (F0 m (pc + 3) ls (.int (S.1 19 i 5) :: rest))) : W p l e R s m args below meth c H locs cells slots Q (F0 m pc ls (.ref (mAdC E 19 i) :: rest)) := mv_get (Y := mLC) Cx hG hH q_X4 19 i (okC_19 hok) rfl rfl 5 (by decide) hl rfl hdg kk
theorem p_X4_changesThen {v : Int32} (Cx : CallFix p m c cc nL s args (cd :: mv_ws) own) (hG : mG E A s) (hO : mOwn mLC E A) (hH : mHold mLC E S H) (hS : va_S A s.heap H locs) (hok : i < 4) (hl : Cond.fieldLink own index "MeasuredVault$Session" "changesThen" "I" ∈ mv_ws) (hdg : decode cc pc = .ok (.putfield index, 3)) (kk : ∀ (H1 : Heap) (locs1 : List Loc), mHold mLC E (mM S 19 i 5 v) H1 → va_S A s.heap H1 locs1 → W p l e R s m args below meth c H1 locs1 cells slots Q (F0 m (pc + 3) ls rest)) : W p l e R s m args below meth c H locs cells slots Q (F0 m pc ls (.int v :: .ref (mAdC E 19 i) :: rest)) := mv_putM (Y := mLC) Cx hG hO hH hS q_X4 tyX4 tyX4_ok nmX4 19 i (okC_19 hok) rfl rfl 5 (by decide) hl rfl (ty := .int) (by decide +kernel) rfl rfl (Nat.le_of_ble_eq_true rfl) (by simp [mWC, mM, m3]) hdg kk
theorem g_X4_asksTime (Cx : CallFix p m c cc nL s args (cd :: mv_ws) own) (hG : mG E A s) (hH : mHold mLC E S H) (hok : i < 4) (hl : Cond.fieldLink own index "MeasuredVault$Session" "asksTime" "Z" ∈ mv_ws) (hdg : decode cc pc = .ok (.getfield index, 3)) (kk : W p l e R s m args below meth c H locs cells slots Q (F0 m (pc + 3) ls (.int (S.1 19 i 6) :: rest))) : W p l e R s m args below meth c H locs cells slots Q (F0 m pc ls (.ref (mAdC E 19 i) :: rest)) := mv_get (Y := mLC) Cx hG hH q_X4 19 i (okC_19 hok) rfl rfl 6 (by decide) hl rfl hdg kk
theorem p_X4_asksTime {v : Int32} (Cx : CallFix p m c cc nL s args (cd :: mv_ws) own) (hG : mG E A s) (hO : mOwn mLC E A) (hH : mHold mLC E S H) (hS : va_S A s.heap H locs) (hok : i < 4) (hv : v = 0 ∨ v = 1) (hl : Cond.fieldLink own index "MeasuredVault$Session" "asksTime" "Z" ∈ mv_ws) (hdg : decode cc pc = .ok (.putfield index, 3)) (kk : ∀ (H1 : Heap) (locs1 : List Loc), mHold mLC E (mM S 19 i 6 v) H1 → va_S A s.heap H1 locs1 → W p l e R s m args below meth c H1 locs1 cells slots Q (F0 m (pc + 3) ls rest)) : W p l e R s m args below meth c H locs cells slots Q (F0 m pc ls (.int v :: .ref (mAdC E 19 i) :: rest)) := mv_putM (Y := mLC) Cx hG hO hH hS q_X4 tyX4 tyX4_ok nmX4 19 i (okC_19 hok) rfl rfl 6 (by decide) hl rfl (ty := .boolean) (by decide +kernel) (by rcases hv with h | h <;> (rw [h]; rfl)) (by rcases hv with h | h <;> (rw [h]; rfl)) (Nat.le_of_ble_eq_true rfl) (by simp [mWC, mM, m3]) hdg kk
theorem g_X4_latest (Cx : CallFix p m c cc nL s args (cd :: mv_ws) own) (hG : mG E A s) (hH : mHold mLC E S H) (hok : i < 4) (hl : Cond.fieldLink own index "MeasuredVault$Session" "latest" "I" ∈ mv_ws) (hdg : decode cc pc = .ok (.getfield index, 3)) (kk : W p l e R s m args below meth c H locs cells slots Q (F0 m (pc + 3) ls (.int (S.1 19 i 7) :: rest))) : W p l e R s m args below meth c H locs cells slots Q (F0 m pc ls (.ref (mAdC E 19 i) :: rest)) := mv_get (Y := mLC) Cx hG hH q_X4 19 i (okC_19 hok) rfl rfl 7 (by decide) hl rfl hdg kk
theorem p_X4_latest {v : Int32} (Cx : CallFix p m c cc nL s args (cd :: mv_ws) own) (hG : mG E A s) (hO : mOwn mLC E A) (hH : mHold mLC E S H) (hS : va_S A s.heap H locs) (hok : i < 4) (hl : Cond.fieldLink own index "MeasuredVault$Session" "latest" "I" ∈ mv_ws) (hdg : decode cc pc = .ok (.putfield index, 3)) (kk : ∀ (H1 : Heap) (locs1 : List Loc), mHold mLC E (mM S 19 i 7 v) H1 → va_S A s.heap H1 locs1 → W p l e R s m args below meth c H1 locs1 cells slots Q (F0 m (pc + 3) ls rest)) : W p l e R s m args below meth c H locs cells slots Q (F0 m pc ls (.int v :: .ref (mAdC E 19 i) :: rest)) := mv_putM (Y := mLC) Cx hG hO hH hS q_X4 tyX4 tyX4_ok nmX4 19 i (okC_19 hok) rfl rfl 7 (by decide) hl rfl (ty := .int) (by decide +kernel) rfl rfl (Nat.le_of_ble_eq_true rfl) (by simp [mWC, mM, m3]) hdg kk
theorem g_X5_auth (Cx : CallFix p m c cc nL s args (cd :: mv_ws) own) (hG : mG E A s) (hH : mHold mLC E S H) (hok : i < 12) (hl : Cond.fieldLink own index "MeasuredVault$Thing" "auth" "[B" ∈ mv_ws) (hdg : decode cc pc = .ok (.getfield index, 3)) (kk : W p l e R s m args below meth c H locs cells slots Q (F0 m (pc + 3) ls (.ref (mAdC E 23 i) :: rest))) : W p l e R s m args below meth c H locs cells slots Q (F0 m pc ls (.ref (mAdC E 22 i) :: rest)) := mv_get (Y := mLC) Cx hG hH q_X5 22 i (okC_22 hok) rfl rfl 0 (by decide) hl rfl hdg kk
theorem g_X5_policy (Cx : CallFix p m c cc nL s args (cd :: mv_ws) own) (hG : mG E A s) (hH : mHold mLC E S H) (hok : i < 12) (hl : Cond.fieldLink own index "MeasuredVault$Thing" "policy" "[B" ∈ mv_ws) (hdg : decode cc pc = .ok (.getfield index, 3)) (kk : W p l e R s m args below meth c H locs cells slots Q (F0 m (pc + 3) ls (.ref (mAdC E 24 i) :: rest))) : W p l e R s m args below meth c H locs cells slots Q (F0 m pc ls (.ref (mAdC E 22 i) :: rest)) := mv_get (Y := mLC) Cx hG hH q_X5 22 i (okC_22 hok) rfl rfl 1 (by decide) hl rfl hdg kk
theorem g_X5_data (Cx : CallFix p m c cc nL s args (cd :: mv_ws) own) (hG : mG E A s) (hH : mHold mLC E S H) (hok : i < 12) (hl : Cond.fieldLink own index "MeasuredVault$Thing" "data" "LMeasuredVault$Bytes;" ∈ mv_ws) (hdg : decode cc pc = .ok (.getfield index, 3)) (kk : W p l e R s m args below meth c H locs cells slots Q (F0 m (pc + 3) ls (.ref (mAdC E 2 (3 + i)) :: rest))) : W p l e R s m args below meth c H locs cells slots Q (F0 m pc ls (.ref (mAdC E 22 i) :: rest)) := mv_get (Y := mLC) Cx hG hH q_X5 22 i (okC_22 hok) rfl rfl 2 (by decide) hl rfl hdg kk
theorem g_X5_present (Cx : CallFix p m c cc nL s args (cd :: mv_ws) own) (hG : mG E A s) (hH : mHold mLC E S H) (hok : i < 12) (hl : Cond.fieldLink own index "MeasuredVault$Thing" "present" "Z" ∈ mv_ws) (hdg : decode cc pc = .ok (.getfield index, 3)) (kk : W p l e R s m args below meth c H locs cells slots Q (F0 m (pc + 3) ls (.int (S.1 22 i 3) :: rest))) : W p l e R s m args below meth c H locs cells slots Q (F0 m pc ls (.ref (mAdC E 22 i) :: rest)) := mv_get (Y := mLC) Cx hG hH q_X5 22 i (okC_22 hok) rfl rfl 3 (by decide) hl rfl hdg kk
theorem p_X5_present {v : Int32} (Cx : CallFix p m c cc nL s args (cd :: mv_ws) own) (hG : mG E A s) (hO : mOwn mLC E A) (hH : mHold mLC E S H) (hS : va_S A s.heap H locs) (hok : i < 12) (hv : v = 0 ∨ v = 1) (hl : Cond.fieldLink own index "MeasuredVault$Thing" "present" "Z" ∈ mv_ws) (hdg : decode cc pc = .ok (.putfield index, 3)) (kk : ∀ (H1 : Heap) (locs1 : List Loc), mHold mLC E (mM S 22 i 3 v) H1 → va_S A s.heap H1 locs1 → W p l e R s m args below meth c H1 locs1 cells slots Q (F0 m (pc + 3) ls rest)) : W p l e R s m args below meth c H locs cells slots Q (F0 m pc ls (.int v :: .ref (mAdC E 22 i) :: rest)) := mv_putM (Y := mLC) Cx hG hO hH hS q_X5 tyX5 tyX5_ok nmX5 22 i (okC_22 hok) rfl rfl 3 (by decide) hl rfl (ty := .boolean) (by decide +kernel) (by rcases hv with h | h <;> (rw [h]; rfl)) (by rcases hv with h | h <;> (rw [h]; rfl)) (Nat.le_of_ble_eq_true rfl) (by simp [mWC, mM, m3]) hdg kk
theorem g_X6_thing (Cx : CallFix p m c cc nL s args (cd :: mv_ws) own) (hG : mG E A s) (hH : mHold mLC E S H) (hok : i < 8) (hl : Cond.fieldLink own index "MeasuredVault$Value" "thing" "LMeasuredVault$Thing;" ∈ mv_ws) (hdg : decode cc pc = .ok (.getfield index, 3)) (kk : W p l e R s m args below meth c H locs cells slots Q (F0 m (pc + 3) ls (.ref (mAdC E 22 (4 + i)) :: rest))) : W p l e R s m args below meth c H locs cells slots Q (F0 m pc ls (.ref (mAdC E 26 i) :: rest)) := mv_get (Y := mLC) Cx hG hH q_X6 26 i (okC_26 hok) rfl rfl 0 (by decide) hl rfl hdg kk
theorem g_X6_kind (Cx : CallFix p m c cc nL s args (cd :: mv_ws) own) (hG : mG E A s) (hH : mHold mLC E S H) (hok : i < 8) (hl : Cond.fieldLink own index "MeasuredVault$Value" "kind" "I" ∈ mv_ws) (hdg : decode cc pc = .ok (.getfield index, 3)) (kk : W p l e R s m args below meth c H locs cells slots Q (F0 m (pc + 3) ls (.int (S.1 26 i 1) :: rest))) : W p l e R s m args below meth c H locs cells slots Q (F0 m pc ls (.ref (mAdC E 26 i) :: rest)) := mv_get (Y := mLC) Cx hG hH q_X6 26 i (okC_26 hok) rfl rfl 1 (by decide) hl rfl hdg kk
theorem p_X6_kind {v : Int32} (Cx : CallFix p m c cc nL s args (cd :: mv_ws) own) (hG : mG E A s) (hO : mOwn mLC E A) (hH : mHold mLC E S H) (hS : va_S A s.heap H locs) (hok : i < 8) (hl : Cond.fieldLink own index "MeasuredVault$Value" "kind" "I" ∈ mv_ws) (hdg : decode cc pc = .ok (.putfield index, 3)) (kk : ∀ (H1 : Heap) (locs1 : List Loc), mHold mLC E (mM S 26 i 1 v) H1 → va_S A s.heap H1 locs1 → W p l e R s m args below meth c H1 locs1 cells slots Q (F0 m (pc + 3) ls rest)) : W p l e R s m args below meth c H locs cells slots Q (F0 m pc ls (.int v :: .ref (mAdC E 26 i) :: rest)) := mv_putM (Y := mLC) Cx hG hO hH hS q_X6 tyX6 tyX6_ok nmX6 26 i (okC_26 hok) rfl rfl 1 (by decide) hl rfl (ty := .int) (by decide +kernel) rfl rfl (Nat.le_of_ble_eq_true rfl) (by simp [mWC, mM, m3]) hdg kk
theorem g_X6_written (Cx : CallFix p m c cc nL s args (cd :: mv_ws) own) (hG : mG E A s) (hH : mHold mLC E S H) (hok : i < 8) (hl : Cond.fieldLink own index "MeasuredVault$Value" "written" "Z" ∈ mv_ws) (hdg : decode cc pc = .ok (.getfield index, 3)) (kk : W p l e R s m args below meth c H locs cells slots Q (F0 m (pc + 3) ls (.int (S.1 26 i 2) :: rest))) : W p l e R s m args below meth c H locs cells slots Q (F0 m pc ls (.ref (mAdC E 26 i) :: rest)) := mv_get (Y := mLC) Cx hG hH q_X6 26 i (okC_26 hok) rfl rfl 2 (by decide) hl rfl hdg kk
theorem p_X6_written {v : Int32} (Cx : CallFix p m c cc nL s args (cd :: mv_ws) own) (hG : mG E A s) (hO : mOwn mLC E A) (hH : mHold mLC E S H) (hS : va_S A s.heap H locs) (hok : i < 8) (hv : v = 0 ∨ v = 1) (hl : Cond.fieldLink own index "MeasuredVault$Value" "written" "Z" ∈ mv_ws) (hdg : decode cc pc = .ok (.putfield index, 3)) (kk : ∀ (H1 : Heap) (locs1 : List Loc), mHold mLC E (mM S 26 i 2 v) H1 → va_S A s.heap H1 locs1 → W p l e R s m args below meth c H1 locs1 cells slots Q (F0 m (pc + 3) ls rest)) : W p l e R s m args below meth c H locs cells slots Q (F0 m pc ls (.int v :: .ref (mAdC E 26 i) :: rest)) := mv_putM (Y := mLC) Cx hG hO hH hS q_X6 tyX6 tyX6_ok nmX6 26 i (okC_26 hok) rfl rfl 2 (by decide) hl rfl (ty := .boolean) (by decide +kernel) (by rcases hv with h | h <;> (rw [h]; rfl)) (by rcases hv with h | h <;> (rw [h]; rfl)) (Nat.le_of_ble_eq_true rfl) (by simp [mWC, mM, m3]) hdg kk
theorem g_X6_isShut (Cx : CallFix p m c cc nL s args (cd :: mv_ws) own) (hG : mG E A s) (hH : mHold mLC E S H) (hok : i < 8) (hl : Cond.fieldLink own index "MeasuredVault$Value" "isShut" "Z" ∈ mv_ws) (hdg : decode cc pc = .ok (.getfield index, 3)) (kk : W p l e R s m args below meth c H locs cells slots Q (F0 m (pc + 3) ls (.int (S.1 26 i 3) :: rest))) : W p l e R s m args below meth c H locs cells slots Q (F0 m pc ls (.ref (mAdC E 26 i) :: rest)) := mv_get (Y := mLC) Cx hG hH q_X6 26 i (okC_26 hok) rfl rfl 3 (by decide) hl rfl hdg kk
theorem p_X6_isShut {v : Int32} (Cx : CallFix p m c cc nL s args (cd :: mv_ws) own) (hG : mG E A s) (hO : mOwn mLC E A) (hH : mHold mLC E S H) (hS : va_S A s.heap H locs) (hok : i < 8) (hv : v = 0 ∨ v = 1) (hl : Cond.fieldLink own index "MeasuredVault$Value" "isShut" "Z" ∈ mv_ws) (hdg : decode cc pc = .ok (.putfield index, 3)) (kk : ∀ (H1 : Heap) (locs1 : List Loc), mHold mLC E (mM S 26 i 3 v) H1 → va_S A s.heap H1 locs1 → W p l e R s m args below meth c H1 locs1 cells slots Q (F0 m (pc + 3) ls rest)) : W p l e R s m args below meth c H locs cells slots Q (F0 m pc ls (.int v :: .ref (mAdC E 26 i) :: rest)) := mv_putM (Y := mLC) Cx hG hO hH hS q_X6 tyX6 tyX6_ok nmX6 26 i (okC_26 hok) rfl rfl 3 (by decide) hl rfl (ty := .boolean) (by decide +kernel) (by rcases hv with h | h <;> (rw [h]; rfl)) (by rcases hv with h | h <;> (rw [h]; rfl)) (Nat.le_of_ble_eq_true rfl) (by simp [mWC, mM, m3]) hdg kk
theorem g_X6_number (Cx : CallFix p m c cc nL s args (cd :: mv_ws) own) (hG : mG E A s) (hH : mHold mLC E S H) (hok : i < 8) (hl : Cond.fieldLink own index "MeasuredVault$Value" "number" "J" ∈ mv_ws) (hdg : decode cc pc = .ok (.getfield index, 3)) (kk : W p l e R s m args below meth c H locs cells slots Q (F0 m (pc + 3) ls (.long (S.2.2 26 i 4) :: rest))) : W p l e R s m args below meth c H locs cells slots Q (F0 m pc ls (.ref (mAdC E 26 i) :: rest)) := mv_get (Y := mLC) Cx hG hH q_X6 26 i (okC_26 hok) rfl rfl 4 (by decide) hl rfl hdg kk
theorem p_X6_number {v : Int64} (Cx : CallFix p m c cc nL s args (cd :: mv_ws) own) (hG : mG E A s) (hO : mOwn mLC E A) (hH : mHold mLC E S H) (hS : va_S A s.heap H locs) (hok : i < 8) (hl : Cond.fieldLink own index "MeasuredVault$Value" "number" "J" ∈ mv_ws) (hdg : decode cc pc = .ok (.putfield index, 3)) (kk : ∀ (H1 : Heap) (locs1 : List Loc), mHold mLC E (mJ S 26 i 4 v) H1 → va_S A s.heap H1 locs1 → W p l e R s m args below meth c H1 locs1 cells slots Q (F0 m (pc + 3) ls rest)) : W p l e R s m args below meth c H locs cells slots Q (F0 m pc ls (.long v :: .ref (mAdC E 26 i) :: rest)) := mv_putJ (Y := mLC) Cx hG hO hH hS q_X6 tyX6 tyX6_ok nmX6 26 i (okC_26 hok) rfl rfl 4 (by decide) hl rfl (ty := .long) (by decide +kernel) rfl rfl (Nat.le_of_ble_eq_true rfl) (by simp [mWC, mJ, m3]) hdg kk
theorem al_18 (Cx : CallFix p m c cc nL s args (cd :: mv_ws) own) (hG : mG E A s) (hH : mHold mLC E S H) (j : Nat) {x : Int32} (hx : x = nI j) (hj : j < 4) (hdg : decode cc pc = .ok (.aaload, 1)) (kk : W p l e R s m args below meth c H locs cells slots Q (F0 m (pc + 1) ls (.ref (mAdC E 19 j) :: rest))) : W p l e R s m args below meth c H locs cells slots Q (F0 m pc ls (.int x :: .ref (mAdC E 18 0) :: rest)) := by
  subst hx
  obtain ⟨q0, hq⟩ := mWl_find (Y := mLC) okC_18
  refine va_aldq Cx.1 Cx.2.1 hG.1 hH q0 4 (n := 4) (f := fun j => some (mAdC E 19 j)) ((mWl_at hq).trans rfl) rfl (vp_in_nI hj (by decide)) hdg ?_
  rw [nI_clamp (by omega)]
  exact kk
theorem al_21 (Cx : CallFix p m c cc nL s args (cd :: mv_ws) own) (hG : mG E A s) (hH : mHold mLC E S H) (j : Nat) {x : Int32} (hx : x = nI j) (hj : j < 4) (hdg : decode cc pc = .ok (.aaload, 1)) (kk : W p l e R s m args below meth c H locs cells slots Q (F0 m (pc + 1) ls (.ref (mAdC E 22 j) :: rest))) : W p l e R s m args below meth c H locs cells slots Q (F0 m pc ls (.int x :: .ref (mAdC E 21 0) :: rest)) := by
  subst hx
  obtain ⟨q0, hq⟩ := mWl_find (Y := mLC) okC_21
  refine va_aldq Cx.1 Cx.2.1 hG.1 hH q0 5 (n := 4) (f := fun j => some (mAdC E 22 j)) ((mWl_at hq).trans rfl) rfl (vp_in_nI hj (by decide)) hdg ?_
  rw [nI_clamp (by omega)]
  exact kk
theorem al_25 (Cx : CallFix p m c cc nL s args (cd :: mv_ws) own) (hG : mG E A s) (hH : mHold mLC E S H) (j : Nat) {x : Int32} (hx : x = nI j) (hj : j < 8) (hdg : decode cc pc = .ok (.aaload, 1)) (kk : W p l e R s m args below meth c H locs cells slots Q (F0 m (pc + 1) ls (.ref (mAdC E 26 j) :: rest))) : W p l e R s m args below meth c H locs cells slots Q (F0 m pc ls (.int x :: .ref (mAdC E 25 0) :: rest)) := by
  subst hx
  obtain ⟨q0, hq⟩ := mWl_find (Y := mLC) okC_25
  refine va_aldq Cx.1 Cx.2.1 hG.1 hH q0 6 (n := 8) (f := fun j => some (mAdC E 26 j)) ((mWl_at hq).trans rfl) rfl (vp_in_nI hj (by decide)) hdg ?_
  rw [nI_clamp (by omega)]
  exact kk
end MVC
end
section
theorem hd_X0_init : yX0_init.cls ≠ "java/lang/invoke/MethodHandle" ∧ yX0_init.cls ≠ "java/lang/invoke/VarHandle" ∧ (parseMethodDescriptor yX0_init.desc).map (fun d => d.parameters.length) = some 1 := by decide +kernel
theorem hd_X0_hasRoomFor : yX0_hasRoomFor.cls ≠ "java/lang/invoke/MethodHandle" ∧ yX0_hasRoomFor.cls ≠ "java/lang/invoke/VarHandle" ∧ (parseMethodDescriptor yX0_hasRoomFor.desc).map (fun d => d.parameters.length) = some 1 := by decide +kernel
theorem hd_X0_put : yX0_put.cls ≠ "java/lang/invoke/MethodHandle" ∧ yX0_put.cls ≠ "java/lang/invoke/VarHandle" ∧ (parseMethodDescriptor yX0_put.desc).map (fun d => d.parameters.length) = some 1 := by decide +kernel
theorem hd_X0_putInt : yX0_putInt.cls ≠ "java/lang/invoke/MethodHandle" ∧ yX0_putInt.cls ≠ "java/lang/invoke/VarHandle" ∧ (parseMethodDescriptor yX0_putInt.desc).map (fun d => d.parameters.length) = some 1 := by decide +kernel
theorem hd_X0_intAt : yX0_intAt.cls ≠ "java/lang/invoke/MethodHandle" ∧ yX0_intAt.cls ≠ "java/lang/invoke/VarHandle" ∧ (parseMethodDescriptor yX0_intAt.desc).map (fun d => d.parameters.length) = some 1 := by decide +kernel
theorem hd_X0_putAll : yX0_putAll.cls ≠ "java/lang/invoke/MethodHandle" ∧ yX0_putAll.cls ≠ "java/lang/invoke/VarHandle" ∧ (parseMethodDescriptor yX0_putAll.desc).map (fun d => d.parameters.length) = some 2 := by decide +kernel
theorem hd_X1_init : yX1_init.cls ≠ "java/lang/invoke/MethodHandle" ∧ yX1_init.cls ≠ "java/lang/invoke/VarHandle" ∧ (parseMethodDescriptor yX1_init.desc).map (fun d => d.parameters.length) = some 0 := by decide +kernel
theorem hd_X1_begin : yX1_begin.cls ≠ "java/lang/invoke/MethodHandle" ∧ yX1_begin.cls ≠ "java/lang/invoke/VarHandle" ∧ (parseMethodDescriptor yX1_begin.desc).map (fun d => d.parameters.length) = some 0 := by decide +kernel
theorem hd_X1_beginKeyed : yX1_beginKeyed.cls ≠ "java/lang/invoke/MethodHandle" ∧ yX1_beginKeyed.cls ≠ "java/lang/invoke/VarHandle" ∧ (parseMethodDescriptor yX1_beginKeyed.desc).map (fun d => d.parameters.length) = some 1 := by decide +kernel
theorem hd_X1_finishKeyed : yX1_finishKeyed.cls ≠ "java/lang/invoke/MethodHandle" ∧ yX1_finishKeyed.cls ≠ "java/lang/invoke/VarHandle" ∧ (parseMethodDescriptor yX1_finishKeyed.desc).map (fun d => d.parameters.length) = some 2 := by decide +kernel
theorem hd_X1_finish : yX1_finish.cls ≠ "java/lang/invoke/MethodHandle" ∧ yX1_finish.cls ≠ "java/lang/invoke/VarHandle" ∧ (parseMethodDescriptor yX1_finish.desc).map (fun d => d.parameters.length) = some 1 := by decide +kernel
theorem hd_X1_putPad : yX1_putPad.cls ≠ "java/lang/invoke/MethodHandle" ∧ yX1_putPad.cls ≠ "java/lang/invoke/VarHandle" ∧ (parseMethodDescriptor yX1_putPad.desc).map (fun d => d.parameters.length) = some 2 := by decide +kernel
theorem hd_X1_padMessage : yX1_padMessage.cls ≠ "java/lang/invoke/MethodHandle" ∧ yX1_padMessage.cls ≠ "java/lang/invoke/VarHandle" ∧ (parseMethodDescriptor yX1_padMessage.desc).map (fun d => d.parameters.length) = some 0 := by decide +kernel
theorem hd_X1_spreadBlock : yX1_spreadBlock.cls ≠ "java/lang/invoke/MethodHandle" ∧ yX1_spreadBlock.cls ≠ "java/lang/invoke/VarHandle" ∧ (parseMethodDescriptor yX1_spreadBlock.desc).map (fun d => d.parameters.length) = some 1 := by decide +kernel
theorem hd_X1_mixBlock : yX1_mixBlock.cls ≠ "java/lang/invoke/MethodHandle" ∧ yX1_mixBlock.cls ≠ "java/lang/invoke/VarHandle" ∧ (parseMethodDescriptor yX1_mixBlock.desc).map (fun d => d.parameters.length) = some 0 := by decide +kernel
theorem hd_X2_init : yX2_init.cls ≠ "java/lang/invoke/MethodHandle" ∧ yX2_init.cls ≠ "java/lang/invoke/VarHandle" ∧ (parseMethodDescriptor yX2_init.desc).map (fun d => d.parameters.length) = some 0 := by decide +kernel
theorem hd_X2_mixIn : yX2_mixIn.cls ≠ "java/lang/invoke/MethodHandle" ∧ yX2_mixIn.cls ≠ "java/lang/invoke/VarHandle" ∧ (parseMethodDescriptor yX2_mixIn.desc).map (fun d => d.parameters.length) = some 3 := by decide +kernel
theorem hd_X2_zero : yX2_zero.cls ≠ "java/lang/invoke/MethodHandle" ∧ yX2_zero.cls ≠ "java/lang/invoke/VarHandle" ∧ (parseMethodDescriptor yX2_zero.desc).map (fun d => d.parameters.length) = some 1 := by decide +kernel
theorem hd_X2_measure : yX2_measure.cls ≠ "java/lang/invoke/MethodHandle" ∧ yX2_measure.cls ≠ "java/lang/invoke/VarHandle" ∧ (parseMethodDescriptor yX2_measure.desc).map (fun d => d.parameters.length) = some 3 := by decide +kernel
theorem hd_X3_init : yX3_init.cls ≠ "java/lang/invoke/MethodHandle" ∧ yX3_init.cls ≠ "java/lang/invoke/VarHandle" ∧ (parseMethodDescriptor yX3_init.desc).map (fun d => d.parameters.length) = some 2 := by decide +kernel
theorem hd_X3_renew : yX3_renew.cls ≠ "java/lang/invoke/MethodHandle" ∧ yX3_renew.cls ≠ "java/lang/invoke/VarHandle" ∧ (parseMethodDescriptor yX3_renew.desc).map (fun d => d.parameters.length) = some 0 := by decide +kernel
theorem hd_X3_sign : yX3_sign.cls ≠ "java/lang/invoke/MethodHandle" ∧ yX3_sign.cls ≠ "java/lang/invoke/VarHandle" ∧ (parseMethodDescriptor yX3_sign.desc).map (fun d => d.parameters.length) = some 1 := by decide +kernel
theorem hd_X3_wrap : yX3_wrap.cls ≠ "java/lang/invoke/MethodHandle" ∧ yX3_wrap.cls ≠ "java/lang/invoke/VarHandle" ∧ (parseMethodDescriptor yX3_wrap.desc).map (fun d => d.parameters.length) = some 4 := by decide +kernel
theorem hd_X3_unwrap : yX3_unwrap.cls ≠ "java/lang/invoke/MethodHandle" ∧ yX3_unwrap.cls ≠ "java/lang/invoke/VarHandle" ∧ (parseMethodDescriptor yX3_unwrap.desc).map (fun d => d.parameters.length) = some 1 := by decide +kernel
theorem hd_X3_derive : yX3_derive.cls ≠ "java/lang/invoke/MethodHandle" ∧ yX3_derive.cls ≠ "java/lang/invoke/VarHandle" ∧ (parseMethodDescriptor yX3_derive.desc).map (fun d => d.parameters.length) = some 2 := by decide +kernel
theorem hd_X3_findMark : yX3_findMark.cls ≠ "java/lang/invoke/MethodHandle" ∧ yX3_findMark.cls ≠ "java/lang/invoke/VarHandle" ∧ (parseMethodDescriptor yX3_findMark.desc).map (fun d => d.parameters.length) = some 2 := by decide +kernel
theorem hd_X3_cover : yX3_cover.cls ≠ "java/lang/invoke/MethodHandle" ∧ yX3_cover.cls ≠ "java/lang/invoke/VarHandle" ∧ (parseMethodDescriptor yX3_cover.desc).map (fun d => d.parameters.length) = some 2 := by decide +kernel
theorem hd_X4_init : yX4_init.cls ≠ "java/lang/invoke/MethodHandle" ∧ yX4_init.cls ≠ "java/lang/invoke/VarHandle" ∧ (parseMethodDescriptor yX4_init.desc).map (fun d => d.parameters.length) = some 0 := by decide +kernel
theorem hd_X4_begin : yX4_begin.cls ≠ "java/lang/invoke/MethodHandle" ∧ yX4_begin.cls ≠ "java/lang/invoke/VarHandle" ∧ (parseMethodDescriptor yX4_begin.desc).map (fun d => d.parameters.length) = some 0 := by decide +kernel
theorem hd_X4_startStep : yX4_startStep.cls ≠ "java/lang/invoke/MethodHandle" ∧ yX4_startStep.cls ≠ "java/lang/invoke/VarHandle" ∧ (parseMethodDescriptor yX4_startStep.desc).map (fun d => d.parameters.length) = some 2 := by decide +kernel
theorem hd_X4_bindRegisters : yX4_bindRegisters.cls ≠ "java/lang/invoke/MethodHandle" ∧ yX4_bindRegisters.cls ≠ "java/lang/invoke/VarHandle" ∧ (parseMethodDescriptor yX4_bindRegisters.desc).map (fun d => d.parameters.length) = some 1 := by decide +kernel
theorem hd_X4_bindTime : yX4_bindTime.cls ≠ "java/lang/invoke/MethodHandle" ∧ yX4_bindTime.cls ≠ "java/lang/invoke/VarHandle" ∧ (parseMethodDescriptor yX4_bindTime.desc).map (fun d => d.parameters.length) = some 1 := by decide +kernel
theorem hd_X4_holds : yX4_holds.cls ≠ "java/lang/invoke/MethodHandle" ∧ yX4_holds.cls ≠ "java/lang/invoke/VarHandle" ∧ (parseMethodDescriptor yX4_holds.desc).map (fun d => d.parameters.length) = some 3 := by decide +kernel
theorem hd_X5_init : yX5_init.cls ≠ "java/lang/invoke/MethodHandle" ∧ yX5_init.cls ≠ "java/lang/invoke/VarHandle" ∧ (parseMethodDescriptor yX5_init.desc).map (fun d => d.parameters.length) = some 1 := by decide +kernel
theorem hd_X6_init : yX6_init.cls ≠ "java/lang/invoke/MethodHandle" ∧ yX6_init.cls ≠ "java/lang/invoke/VarHandle" ∧ (parseMethodDescriptor yX6_init.desc).map (fun d => d.parameters.length) = some 0 := by decide +kernel
theorem hd_X6_mayBe : yX6_mayBe.cls ≠ "java/lang/invoke/MethodHandle" ∧ yX6_mayBe.cls ≠ "java/lang/invoke/VarHandle" ∧ (parseMethodDescriptor yX6_mayBe.desc).map (fun d => d.parameters.length) = some 2 := by decide +kernel
theorem hd_X6_begin : yX6_begin.cls ≠ "java/lang/invoke/MethodHandle" ∧ yX6_begin.cls ≠ "java/lang/invoke/VarHandle" ∧ (parseMethodDescriptor yX6_begin.desc).map (fun d => d.parameters.length) = some 2 := by decide +kernel
theorem hd_X6_spellNumber : yX6_spellNumber.cls ≠ "java/lang/invoke/MethodHandle" ∧ yX6_spellNumber.cls ≠ "java/lang/invoke/VarHandle" ∧ (parseMethodDescriptor yX6_spellNumber.desc).map (fun d => d.parameters.length) = some 0 := by decide +kernel
theorem hd_X7_init : yX7_init.cls ≠ "java/lang/invoke/MethodHandle" ∧ yX7_init.cls ≠ "java/lang/invoke/VarHandle" ∧ (parseMethodDescriptor yX7_init.desc).map (fun d => d.parameters.length) = some 1 := by decide +kernel
theorem hd_X7_feed : yX7_feed.cls ≠ "java/lang/invoke/MethodHandle" ∧ yX7_feed.cls ≠ "java/lang/invoke/VarHandle" ∧ (parseMethodDescriptor yX7_feed.desc).map (fun d => d.parameters.length) = some 5 := by decide +kernel
theorem hd_X7_end : yX7_end.cls ≠ "java/lang/invoke/MethodHandle" ∧ yX7_end.cls ≠ "java/lang/invoke/VarHandle" ∧ (parseMethodDescriptor yX7_end.desc).map (fun d => d.parameters.length) = some 1 := by decide +kernel
theorem hd_X7_octet : yX7_octet.cls ≠ "java/lang/invoke/MethodHandle" ∧ yX7_octet.cls ≠ "java/lang/invoke/VarHandle" ∧ (parseMethodDescriptor yX7_octet.desc).map (fun d => d.parameters.length) = some 1 := by decide +kernel
theorem hd_X7_back : yX7_back.cls ≠ "java/lang/invoke/MethodHandle" ∧ yX7_back.cls ≠ "java/lang/invoke/VarHandle" ∧ (parseMethodDescriptor yX7_back.desc).map (fun d => d.parameters.length) = some 0 := by decide +kernel
theorem hd_X7_hash : yX7_hash.cls ≠ "java/lang/invoke/MethodHandle" ∧ yX7_hash.cls ≠ "java/lang/invoke/VarHandle" ∧ (parseMethodDescriptor yX7_hash.desc).map (fun d => d.parameters.length) = some 0 := by decide +kernel
theorem hd_X7_key : yX7_key.cls ≠ "java/lang/invoke/MethodHandle" ∧ yX7_key.cls ≠ "java/lang/invoke/VarHandle" ∧ (parseMethodDescriptor yX7_key.desc).map (fun d => d.parameters.length) = some 0 := by decide +kernel
theorem hd_X7_extend : yX7_extend.cls ≠ "java/lang/invoke/MethodHandle" ∧ yX7_extend.cls ≠ "java/lang/invoke/VarHandle" ∧ (parseMethodDescriptor yX7_extend.desc).map (fun d => d.parameters.length) = some 1 := by decide +kernel
theorem hd_X7_reset : yX7_reset.cls ≠ "java/lang/invoke/MethodHandle" ∧ yX7_reset.cls ≠ "java/lang/invoke/VarHandle" ∧ (parseMethodDescriptor yX7_reset.desc).map (fun d => d.parameters.length) = some 1 := by decide +kernel
theorem hd_X7_state : yX7_state.cls ≠ "java/lang/invoke/MethodHandle" ∧ yX7_state.cls ≠ "java/lang/invoke/VarHandle" ∧ (parseMethodDescriptor yX7_state.desc).map (fun d => d.parameters.length) = some 1 := by decide +kernel
theorem hd_X7_quote : yX7_quote.cls ≠ "java/lang/invoke/MethodHandle" ∧ yX7_quote.cls ≠ "java/lang/invoke/VarHandle" ∧ (parseMethodDescriptor yX7_quote.desc).map (fun d => d.parameters.length) = some 1 := by decide +kernel
theorem hd_X7_open : yX7_open.cls ≠ "java/lang/invoke/MethodHandle" ∧ yX7_open.cls ≠ "java/lang/invoke/VarHandle" ∧ (parseMethodDescriptor yX7_open.desc).map (fun d => d.parameters.length) = some 1 := by decide +kernel
theorem hd_X7_policyState : yX7_policyState.cls ≠ "java/lang/invoke/MethodHandle" ∧ yX7_policyState.cls ≠ "java/lang/invoke/VarHandle" ∧ (parseMethodDescriptor yX7_policyState.desc).map (fun d => d.parameters.length) = some 2 := by decide +kernel
theorem hd_X7_policyAuth : yX7_policyAuth.cls ≠ "java/lang/invoke/MethodHandle" ∧ yX7_policyAuth.cls ≠ "java/lang/invoke/VarHandle" ∧ (parseMethodDescriptor yX7_policyAuth.desc).map (fun d => d.parameters.length) = some 1 := by decide +kernel
theorem hd_X7_policyCode : yX7_policyCode.cls ≠ "java/lang/invoke/MethodHandle" ∧ yX7_policyCode.cls ≠ "java/lang/invoke/VarHandle" ∧ (parseMethodDescriptor yX7_policyCode.desc).map (fun d => d.parameters.length) = some 2 := by decide +kernel
theorem hd_X7_policyTime : yX7_policyTime.cls ≠ "java/lang/invoke/MethodHandle" ∧ yX7_policyTime.cls ≠ "java/lang/invoke/VarHandle" ∧ (parseMethodDescriptor yX7_policyTime.desc).map (fun d => d.parameters.length) = some 2 := by decide +kernel
theorem hd_X7_policyOr : yX7_policyOr.cls ≠ "java/lang/invoke/MethodHandle" ∧ yX7_policyOr.cls ≠ "java/lang/invoke/VarHandle" ∧ (parseMethodDescriptor yX7_policyOr.desc).map (fun d => d.parameters.length) = some 1 := by decide +kernel
theorem hd_X7_digest : yX7_digest.cls ≠ "java/lang/invoke/MethodHandle" ∧ yX7_digest.cls ≠ "java/lang/invoke/VarHandle" ∧ (parseMethodDescriptor yX7_digest.desc).map (fun d => d.parameters.length) = some 1 := by decide +kernel
theorem hd_X7_seal : yX7_seal.cls ≠ "java/lang/invoke/MethodHandle" ∧ yX7_seal.cls ≠ "java/lang/invoke/VarHandle" ∧ (parseMethodDescriptor yX7_seal.desc).map (fun d => d.parameters.length) = some 1 := by decide +kernel
theorem hd_X7_load : yX7_load.cls ≠ "java/lang/invoke/MethodHandle" ∧ yX7_load.cls ≠ "java/lang/invoke/VarHandle" ∧ (parseMethodDescriptor yX7_load.desc).map (fun d => d.parameters.length) = some 0 := by decide +kernel
theorem hd_X7_unseal : yX7_unseal.cls ≠ "java/lang/invoke/MethodHandle" ∧ yX7_unseal.cls ≠ "java/lang/invoke/VarHandle" ∧ (parseMethodDescriptor yX7_unseal.desc).map (fun d => d.parameters.length) = some 2 := by decide +kernel
theorem hd_X7_flush : yX7_flush.cls ≠ "java/lang/invoke/MethodHandle" ∧ yX7_flush.cls ≠ "java/lang/invoke/VarHandle" ∧ (parseMethodDescriptor yX7_flush.desc).map (fun d => d.parameters.length) = some 1 := by decide +kernel
theorem hd_X7_define : yX7_define.cls ≠ "java/lang/invoke/MethodHandle" ∧ yX7_define.cls ≠ "java/lang/invoke/VarHandle" ∧ (parseMethodDescriptor yX7_define.desc).map (fun d => d.parameters.length) = some 4 := by decide +kernel
theorem hd_X7_undefine : yX7_undefine.cls ≠ "java/lang/invoke/MethodHandle" ∧ yX7_undefine.cls ≠ "java/lang/invoke/VarHandle" ∧ (parseMethodDescriptor yX7_undefine.desc).map (fun d => d.parameters.length) = some 1 := by decide +kernel
theorem hd_X7_write : yX7_write.cls ≠ "java/lang/invoke/MethodHandle" ∧ yX7_write.cls ≠ "java/lang/invoke/VarHandle" ∧ (parseMethodDescriptor yX7_write.desc).map (fun d => d.parameters.length) = some 3 := by decide +kernel
theorem hd_X7_count : yX7_count.cls ≠ "java/lang/invoke/MethodHandle" ∧ yX7_count.cls ≠ "java/lang/invoke/VarHandle" ∧ (parseMethodDescriptor yX7_count.desc).map (fun d => d.parameters.length) = some 2 := by decide +kernel
theorem hd_X7_chain : yX7_chain.cls ≠ "java/lang/invoke/MethodHandle" ∧ yX7_chain.cls ≠ "java/lang/invoke/VarHandle" ∧ (parseMethodDescriptor yX7_chain.desc).map (fun d => d.parameters.length) = some 2 := by decide +kernel
theorem hd_X7_read : yX7_read.cls ≠ "java/lang/invoke/MethodHandle" ∧ yX7_read.cls ≠ "java/lang/invoke/VarHandle" ∧ (parseMethodDescriptor yX7_read.desc).map (fun d => d.parameters.length) = some 2 := by decide +kernel
theorem hd_X7_shut : yX7_shut.cls ≠ "java/lang/invoke/MethodHandle" ∧ yX7_shut.cls ≠ "java/lang/invoke/VarHandle" ∧ (parseMethodDescriptor yX7_shut.desc).map (fun d => d.parameters.length) = some 2 := by decide +kernel
theorem hd_X7_own : yX7_own.cls ≠ "java/lang/invoke/MethodHandle" ∧ yX7_own.cls ≠ "java/lang/invoke/VarHandle" ∧ (parseMethodDescriptor yX7_own.desc).map (fun d => d.parameters.length) = some 0 := by decide +kernel
theorem hd_X7_unlock : yX7_unlock.cls ≠ "java/lang/invoke/MethodHandle" ∧ yX7_unlock.cls ≠ "java/lang/invoke/VarHandle" ∧ (parseMethodDescriptor yX7_unlock.desc).map (fun d => d.parameters.length) = some 0 := by decide +kernel
theorem hd_X7_clear : yX7_clear.cls ≠ "java/lang/invoke/MethodHandle" ∧ yX7_clear.cls ≠ "java/lang/invoke/VarHandle" ∧ (parseMethodDescriptor yX7_clear.desc).map (fun d => d.parameters.length) = some 0 := by decide +kernel
theorem hd_X7_tick : yX7_tick.cls ≠ "java/lang/invoke/MethodHandle" ∧ yX7_tick.cls ≠ "java/lang/invoke/VarHandle" ∧ (parseMethodDescriptor yX7_tick.desc).map (fun d => d.parameters.length) = some 1 := by decide +kernel
theorem hd_X7_restart : yX7_restart.cls ≠ "java/lang/invoke/MethodHandle" ∧ yX7_restart.cls ≠ "java/lang/invoke/VarHandle" ∧ (parseMethodDescriptor yX7_restart.desc).map (fun d => d.parameters.length) = some 0 := by decide +kernel
theorem hd_X7_look : yX7_look.cls ≠ "java/lang/invoke/MethodHandle" ∧ yX7_look.cls ≠ "java/lang/invoke/VarHandle" ∧ (parseMethodDescriptor yX7_look.desc).map (fun d => d.parameters.length) = some 1 := by decide +kernel
theorem hd_X7_takeTapeHash : yX7_takeTapeHash.cls ≠ "java/lang/invoke/MethodHandle" ∧ yX7_takeTapeHash.cls ≠ "java/lang/invoke/VarHandle" ∧ (parseMethodDescriptor yX7_takeTapeHash.desc).map (fun d => d.parameters.length) = some 0 := by decide +kernel
theorem hd_X7_hashNothing : yX7_hashNothing.cls ≠ "java/lang/invoke/MethodHandle" ∧ yX7_hashNothing.cls ≠ "java/lang/invoke/VarHandle" ∧ (parseMethodDescriptor yX7_hashNothing.desc).map (fun d => d.parameters.length) = some 1 := by decide +kernel
theorem hd_X7_tell : yX7_tell.cls ≠ "java/lang/invoke/MethodHandle" ∧ yX7_tell.cls ≠ "java/lang/invoke/VarHandle" ∧ (parseMethodDescriptor yX7_tell.desc).map (fun d => d.parameters.length) = some 2 := by decide +kernel
theorem hd_X7_openSession : yX7_openSession.cls ≠ "java/lang/invoke/MethodHandle" ∧ yX7_openSession.cls ≠ "java/lang/invoke/VarHandle" ∧ (parseMethodDescriptor yX7_openSession.desc).map (fun d => d.parameters.length) = some 1 := by decide +kernel
theorem hd_X7_objectAt : yX7_objectAt.cls ≠ "java/lang/invoke/MethodHandle" ∧ yX7_objectAt.cls ≠ "java/lang/invoke/VarHandle" ∧ (parseMethodDescriptor yX7_objectAt.desc).map (fun d => d.parameters.length) = some 1 := by decide +kernel
theorem hd_X7_valueAt : yX7_valueAt.cls ≠ "java/lang/invoke/MethodHandle" ∧ yX7_valueAt.cls ≠ "java/lang/invoke/VarHandle" ∧ (parseMethodDescriptor yX7_valueAt.desc).map (fun d => d.parameters.length) = some 1 := by decide +kernel
theorem hd_X7_valueOf : yX7_valueOf.cls ≠ "java/lang/invoke/MethodHandle" ∧ yX7_valueOf.cls ≠ "java/lang/invoke/VarHandle" ∧ (parseMethodDescriptor yX7_valueOf.desc).map (fun d => d.parameters.length) = some 2 := by decide +kernel
theorem hd_X7_policyFrom : yX7_policyFrom.cls ≠ "java/lang/invoke/MethodHandle" ∧ yX7_policyFrom.cls ≠ "java/lang/invoke/VarHandle" ∧ (parseMethodDescriptor yX7_policyFrom.desc).map (fun d => d.parameters.length) = some 1 := by decide +kernel
theorem hd_X7_chooseBranch : yX7_chooseBranch.cls ≠ "java/lang/invoke/MethodHandle" ∧ yX7_chooseBranch.cls ≠ "java/lang/invoke/VarHandle" ∧ (parseMethodDescriptor yX7_chooseBranch.desc).map (fun d => d.parameters.length) = some 1 := by decide +kernel
theorem hd_X7_keepUnwrapped : yX7_keepUnwrapped.cls ≠ "java/lang/invoke/MethodHandle" ∧ yX7_keepUnwrapped.cls ≠ "java/lang/invoke/VarHandle" ∧ (parseMethodDescriptor yX7_keepUnwrapped.desc).map (fun d => d.parameters.length) = some 0 := by decide +kernel
theorem hd_X7_writeTape : yX7_writeTape.cls ≠ "java/lang/invoke/MethodHandle" ∧ yX7_writeTape.cls ≠ "java/lang/invoke/VarHandle" ∧ (parseMethodDescriptor yX7_writeTape.desc).map (fun d => d.parameters.length) = some 3 := by decide +kernel
theorem hd_X7_chainTape : yX7_chainTape.cls ≠ "java/lang/invoke/MethodHandle" ∧ yX7_chainTape.cls ≠ "java/lang/invoke/VarHandle" ∧ (parseMethodDescriptor yX7_chainTape.desc).map (fun d => d.parameters.length) = some 2 := by decide +kernel
theorem hd_X7_askToChange : yX7_askToChange.cls ≠ "java/lang/invoke/MethodHandle" ∧ yX7_askToChange.cls ≠ "java/lang/invoke/VarHandle" ∧ (parseMethodDescriptor yX7_askToChange.desc).map (fun d => d.parameters.length) = some 3 := by decide +kernel
theorem hd_X7_ask : yX7_ask.cls ≠ "java/lang/invoke/MethodHandle" ∧ yX7_ask.cls ≠ "java/lang/invoke/VarHandle" ∧ (parseMethodDescriptor yX7_ask.desc).map (fun d => d.parameters.length) = some 3 := by decide +kernel
theorem hd_X7_askKey : yX7_askKey.cls ≠ "java/lang/invoke/MethodHandle" ∧ yX7_askKey.cls ≠ "java/lang/invoke/VarHandle" ∧ (parseMethodDescriptor yX7_askKey.desc).map (fun d => d.parameters.length) = some 1 := by decide +kernel
theorem hd_X7_freeObjects : yX7_freeObjects.cls ≠ "java/lang/invoke/MethodHandle" ∧ yX7_freeObjects.cls ≠ "java/lang/invoke/VarHandle" ∧ (parseMethodDescriptor yX7_freeObjects.desc).map (fun d => d.parameters.length) = some 0 := by decide +kernel
theorem hd_X7_objectsHeld : yX7_objectsHeld.cls ≠ "java/lang/invoke/MethodHandle" ∧ yX7_objectsHeld.cls ≠ "java/lang/invoke/VarHandle" ∧ (parseMethodDescriptor yX7_objectsHeld.desc).map (fun d => d.parameters.length) = some 0 := by decide +kernel
theorem hd_X7_sessionsOpen : yX7_sessionsOpen.cls ≠ "java/lang/invoke/MethodHandle" ∧ yX7_sessionsOpen.cls ≠ "java/lang/invoke/VarHandle" ∧ (parseMethodDescriptor yX7_sessionsOpen.desc).map (fun d => d.parameters.length) = some 0 := by decide +kernel
theorem hd_X7_valuesDefined : yX7_valuesDefined.cls ≠ "java/lang/invoke/MethodHandle" ∧ yX7_valuesDefined.cls ≠ "java/lang/invoke/VarHandle" ∧ (parseMethodDescriptor yX7_valuesDefined.desc).map (fun d => d.parameters.length) = some 0 := by decide +kernel
theorem hd_X7_copyDigest : yX7_copyDigest.cls ≠ "java/lang/invoke/MethodHandle" ∧ yX7_copyDigest.cls ≠ "java/lang/invoke/VarHandle" ∧ (parseMethodDescriptor yX7_copyDigest.desc).map (fun d => d.parameters.length) = some 2 := by decide +kernel
theorem hd_X7_sameDigest : yX7_sameDigest.cls ≠ "java/lang/invoke/MethodHandle" ∧ yX7_sameDigest.cls ≠ "java/lang/invoke/VarHandle" ∧ (parseMethodDescriptor yX7_sameDigest.desc).map (fun d => d.parameters.length) = some 2 := by decide +kernel
theorem hd_X7_sameBytes : yX7_sameBytes.cls ≠ "java/lang/invoke/MethodHandle" ∧ yX7_sameBytes.cls ≠ "java/lang/invoke/VarHandle" ∧ (parseMethodDescriptor yX7_sameBytes.desc).map (fun d => d.parameters.length) = some 3 := by decide +kernel
theorem hd_X8_init : yX8_init.cls ≠ "java/lang/invoke/MethodHandle" ∧ yX8_init.cls ≠ "java/lang/invoke/VarHandle" ∧ (parseMethodDescriptor yX8_init.desc).map (fun d => d.parameters.length) = some 1 := by decide +kernel
theorem hd_X8_add : yX8_add.cls ≠ "java/lang/invoke/MethodHandle" ∧ yX8_add.cls ≠ "java/lang/invoke/VarHandle" ∧ (parseMethodDescriptor yX8_add.desc).map (fun d => d.parameters.length) = some 1 := by decide +kernel
theorem hd_X8_word : yX8_word.cls ≠ "java/lang/invoke/MethodHandle" ∧ yX8_word.cls ≠ "java/lang/invoke/VarHandle" ∧ (parseMethodDescriptor yX8_word.desc).map (fun d => d.parameters.length) = some 1 := by decide +kernel
theorem hd_X8_add_ : yX8_add_.cls ≠ "java/lang/invoke/MethodHandle" ∧ yX8_add_.cls ≠ "java/lang/invoke/VarHandle" ∧ (parseMethodDescriptor yX8_add_.desc).map (fun d => d.parameters.length) = some 3 := by decide +kernel
theorem hd_X8_turn : yX8_turn.cls ≠ "java/lang/invoke/MethodHandle" ∧ yX8_turn.cls ≠ "java/lang/invoke/VarHandle" ∧ (parseMethodDescriptor yX8_turn.desc).map (fun d => d.parameters.length) = some 2 := by decide +kernel
theorem hd_X8_block : yX8_block.cls ≠ "java/lang/invoke/MethodHandle" ∧ yX8_block.cls ≠ "java/lang/invoke/VarHandle" ∧ (parseMethodDescriptor yX8_block.desc).map (fun d => d.parameters.length) = some 3 := by decide +kernel
theorem hd_X8_hashTo : yX8_hashTo.cls ≠ "java/lang/invoke/MethodHandle" ∧ yX8_hashTo.cls ≠ "java/lang/invoke/VarHandle" ∧ (parseMethodDescriptor yX8_hashTo.desc).map (fun d => d.parameters.length) = some 2 := by decide +kernel
theorem hd_X8_macTo : yX8_macTo.cls ≠ "java/lang/invoke/MethodHandle" ∧ yX8_macTo.cls ≠ "java/lang/invoke/VarHandle" ∧ (parseMethodDescriptor yX8_macTo.desc).map (fun d => d.parameters.length) = some 2 := by decide +kernel
theorem hd_X8_macSeed : yX8_macSeed.cls ≠ "java/lang/invoke/MethodHandle" ∧ yX8_macSeed.cls ≠ "java/lang/invoke/VarHandle" ∧ (parseMethodDescriptor yX8_macSeed.desc).map (fun d => d.parameters.length) = some 1 := by decide +kernel
theorem hd_X8_same : yX8_same.cls ≠ "java/lang/invoke/MethodHandle" ∧ yX8_same.cls ≠ "java/lang/invoke/VarHandle" ∧ (parseMethodDescriptor yX8_same.desc).map (fun d => d.parameters.length) = some 4 := by decide +kernel
theorem hd_X8_tapeHash : yX8_tapeHash.cls ≠ "java/lang/invoke/MethodHandle" ∧ yX8_tapeHash.cls ≠ "java/lang/invoke/VarHandle" ∧ (parseMethodDescriptor yX8_tapeHash.desc).map (fun d => d.parameters.length) = some 2 := by decide +kernel
theorem hd_X8_put : yX8_put.cls ≠ "java/lang/invoke/MethodHandle" ∧ yX8_put.cls ≠ "java/lang/invoke/VarHandle" ∧ (parseMethodDescriptor yX8_put.desc).map (fun d => d.parameters.length) = some 1 := by decide +kernel
theorem hd_X8_feed : yX8_feed.cls ≠ "java/lang/invoke/MethodHandle" ∧ yX8_feed.cls ≠ "java/lang/invoke/VarHandle" ∧ (parseMethodDescriptor yX8_feed.desc).map (fun d => d.parameters.length) = some 5 := by decide +kernel
theorem hd_X8_end : yX8_end.cls ≠ "java/lang/invoke/MethodHandle" ∧ yX8_end.cls ≠ "java/lang/invoke/VarHandle" ∧ (parseMethodDescriptor yX8_end.desc).map (fun d => d.parameters.length) = some 1 := by decide +kernel
theorem hd_X8_octet : yX8_octet.cls ≠ "java/lang/invoke/MethodHandle" ∧ yX8_octet.cls ≠ "java/lang/invoke/VarHandle" ∧ (parseMethodDescriptor yX8_octet.desc).map (fun d => d.parameters.length) = some 1 := by decide +kernel
theorem hd_X8_back : yX8_back.cls ≠ "java/lang/invoke/MethodHandle" ∧ yX8_back.cls ≠ "java/lang/invoke/VarHandle" ∧ (parseMethodDescriptor yX8_back.desc).map (fun d => d.parameters.length) = some 0 := by decide +kernel
theorem hd_X8_told : yX8_told.cls ≠ "java/lang/invoke/MethodHandle" ∧ yX8_told.cls ≠ "java/lang/invoke/VarHandle" ∧ (parseMethodDescriptor yX8_told.desc).map (fun d => d.parameters.length) = some 0 := by decide +kernel
theorem hd_X8_hash : yX8_hash.cls ≠ "java/lang/invoke/MethodHandle" ∧ yX8_hash.cls ≠ "java/lang/invoke/VarHandle" ∧ (parseMethodDescriptor yX8_hash.desc).map (fun d => d.parameters.length) = some 0 := by decide +kernel
theorem hd_X8_key : yX8_key.cls ≠ "java/lang/invoke/MethodHandle" ∧ yX8_key.cls ≠ "java/lang/invoke/VarHandle" ∧ (parseMethodDescriptor yX8_key.desc).map (fun d => d.parameters.length) = some 0 := by decide +kernel
theorem hd_X8_change : yX8_change.cls ≠ "java/lang/invoke/MethodHandle" ∧ yX8_change.cls ≠ "java/lang/invoke/VarHandle" ∧ (parseMethodDescriptor yX8_change.desc).map (fun d => d.parameters.length) = some 0 := by decide +kernel
theorem hd_X8_extend : yX8_extend.cls ≠ "java/lang/invoke/MethodHandle" ∧ yX8_extend.cls ≠ "java/lang/invoke/VarHandle" ∧ (parseMethodDescriptor yX8_extend.desc).map (fun d => d.parameters.length) = some 1 := by decide +kernel
theorem hd_X8_reset : yX8_reset.cls ≠ "java/lang/invoke/MethodHandle" ∧ yX8_reset.cls ≠ "java/lang/invoke/VarHandle" ∧ (parseMethodDescriptor yX8_reset.desc).map (fun d => d.parameters.length) = some 1 := by decide +kernel
theorem hd_X8_stateTo : yX8_stateTo.cls ≠ "java/lang/invoke/MethodHandle" ∧ yX8_stateTo.cls ≠ "java/lang/invoke/VarHandle" ∧ (parseMethodDescriptor yX8_stateTo.desc).map (fun d => d.parameters.length) = some 3 := by decide +kernel
theorem hd_X8_state : yX8_state.cls ≠ "java/lang/invoke/MethodHandle" ∧ yX8_state.cls ≠ "java/lang/invoke/VarHandle" ∧ (parseMethodDescriptor yX8_state.desc).map (fun d => d.parameters.length) = some 1 := by decide +kernel
theorem hd_X8_tell : yX8_tell.cls ≠ "java/lang/invoke/MethodHandle" ∧ yX8_tell.cls ≠ "java/lang/invoke/VarHandle" ∧ (parseMethodDescriptor yX8_tell.desc).map (fun d => d.parameters.length) = some 1 := by decide +kernel
theorem hd_X8_tellWord : yX8_tellWord.cls ≠ "java/lang/invoke/MethodHandle" ∧ yX8_tellWord.cls ≠ "java/lang/invoke/VarHandle" ∧ (parseMethodDescriptor yX8_tellWord.desc).map (fun d => d.parameters.length) = some 1 := by decide +kernel
theorem hd_X8_quote : yX8_quote.cls ≠ "java/lang/invoke/MethodHandle" ∧ yX8_quote.cls ≠ "java/lang/invoke/VarHandle" ∧ (parseMethodDescriptor yX8_quote.desc).map (fun d => d.parameters.length) = some 1 := by decide +kernel
theorem hd_X8_isSession : yX8_isSession.cls ≠ "java/lang/invoke/MethodHandle" ∧ yX8_isSession.cls ≠ "java/lang/invoke/VarHandle" ∧ (parseMethodDescriptor yX8_isSession.desc).map (fun d => d.parameters.length) = some 1 := by decide +kernel
theorem hd_X8_opened : yX8_opened.cls ≠ "java/lang/invoke/MethodHandle" ∧ yX8_opened.cls ≠ "java/lang/invoke/VarHandle" ∧ (parseMethodDescriptor yX8_opened.desc).map (fun d => d.parameters.length) = some 1 := by decide +kernel
theorem hd_X8_open : yX8_open.cls ≠ "java/lang/invoke/MethodHandle" ∧ yX8_open.cls ≠ "java/lang/invoke/VarHandle" ∧ (parseMethodDescriptor yX8_open.desc).map (fun d => d.parameters.length) = some 1 := by decide +kernel
theorem hd_X8_begin : yX8_begin.cls ≠ "java/lang/invoke/MethodHandle" ∧ yX8_begin.cls ≠ "java/lang/invoke/VarHandle" ∧ (parseMethodDescriptor yX8_begin.desc).map (fun d => d.parameters.length) = some 2 := by decide +kernel
theorem hd_X8_policyState : yX8_policyState.cls ≠ "java/lang/invoke/MethodHandle" ∧ yX8_policyState.cls ≠ "java/lang/invoke/VarHandle" ∧ (parseMethodDescriptor yX8_policyState.desc).map (fun d => d.parameters.length) = some 2 := by decide +kernel
theorem hd_X8_policyAuth : yX8_policyAuth.cls ≠ "java/lang/invoke/MethodHandle" ∧ yX8_policyAuth.cls ≠ "java/lang/invoke/VarHandle" ∧ (parseMethodDescriptor yX8_policyAuth.desc).map (fun d => d.parameters.length) = some 1 := by decide +kernel
theorem hd_X8_policyCode : yX8_policyCode.cls ≠ "java/lang/invoke/MethodHandle" ∧ yX8_policyCode.cls ≠ "java/lang/invoke/VarHandle" ∧ (parseMethodDescriptor yX8_policyCode.desc).map (fun d => d.parameters.length) = some 2 := by decide +kernel
theorem hd_X8_policyTime : yX8_policyTime.cls ≠ "java/lang/invoke/MethodHandle" ∧ yX8_policyTime.cls ≠ "java/lang/invoke/VarHandle" ∧ (parseMethodDescriptor yX8_policyTime.desc).map (fun d => d.parameters.length) = some 2 := by decide +kernel
theorem hd_X8_policyOr : yX8_policyOr.cls ≠ "java/lang/invoke/MethodHandle" ∧ yX8_policyOr.cls ≠ "java/lang/invoke/VarHandle" ∧ (parseMethodDescriptor yX8_policyOr.desc).map (fun d => d.parameters.length) = some 1 := by decide +kernel
theorem hd_X8_digest : yX8_digest.cls ≠ "java/lang/invoke/MethodHandle" ∧ yX8_digest.cls ≠ "java/lang/invoke/VarHandle" ∧ (parseMethodDescriptor yX8_digest.desc).map (fun d => d.parameters.length) = some 1 := by decide +kernel
theorem hd_X8_compared : yX8_compared.cls ≠ "java/lang/invoke/MethodHandle" ∧ yX8_compared.cls ≠ "java/lang/invoke/VarHandle" ∧ (parseMethodDescriptor yX8_compared.desc).map (fun d => d.parameters.length) = some 2 := by decide +kernel
theorem hd_X8_by : yX8_by.cls ≠ "java/lang/invoke/MethodHandle" ∧ yX8_by.cls ≠ "java/lang/invoke/VarHandle" ∧ (parseMethodDescriptor yX8_by.desc).map (fun d => d.parameters.length) = some 3 := by decide +kernel
theorem hd_X8_owners : yX8_owners.cls ≠ "java/lang/invoke/MethodHandle" ∧ yX8_owners.cls ≠ "java/lang/invoke/VarHandle" ∧ (parseMethodDescriptor yX8_owners.desc).map (fun d => d.parameters.length) = some 0 := by decide +kernel
theorem hd_X8_number : yX8_number.cls ≠ "java/lang/invoke/MethodHandle" ∧ yX8_number.cls ≠ "java/lang/invoke/VarHandle" ∧ (parseMethodDescriptor yX8_number.desc).map (fun d => d.parameters.length) = some 1 := by decide +kernel
theorem hd_X8_mix : yX8_mix.cls ≠ "java/lang/invoke/MethodHandle" ∧ yX8_mix.cls ≠ "java/lang/invoke/VarHandle" ∧ (parseMethodDescriptor yX8_mix.desc).map (fun d => d.parameters.length) = some 4 := by decide +kernel
theorem hd_X8_sealTo : yX8_sealTo.cls ≠ "java/lang/invoke/MethodHandle" ∧ yX8_sealTo.cls ≠ "java/lang/invoke/VarHandle" ∧ (parseMethodDescriptor yX8_sealTo.desc).map (fun d => d.parameters.length) = some 5 := by decide +kernel
theorem hd_X8_seal : yX8_seal.cls ≠ "java/lang/invoke/MethodHandle" ∧ yX8_seal.cls ≠ "java/lang/invoke/VarHandle" ∧ (parseMethodDescriptor yX8_seal.desc).map (fun d => d.parameters.length) = some 1 := by decide +kernel
theorem hd_X8_load : yX8_load.cls ≠ "java/lang/invoke/MethodHandle" ∧ yX8_load.cls ≠ "java/lang/invoke/VarHandle" ∧ (parseMethodDescriptor yX8_load.desc).map (fun d => d.parameters.length) = some 0 := by decide +kernel
theorem hd_X8_isObject : yX8_isObject.cls ≠ "java/lang/invoke/MethodHandle" ∧ yX8_isObject.cls ≠ "java/lang/invoke/VarHandle" ∧ (parseMethodDescriptor yX8_isObject.desc).map (fun d => d.parameters.length) = some 1 := by decide +kernel
theorem hd_X8_show : yX8_show.cls ≠ "java/lang/invoke/MethodHandle" ∧ yX8_show.cls ≠ "java/lang/invoke/VarHandle" ∧ (parseMethodDescriptor yX8_show.desc).map (fun d => d.parameters.length) = some 1 := by decide +kernel
theorem hd_X8_unseal : yX8_unseal.cls ≠ "java/lang/invoke/MethodHandle" ∧ yX8_unseal.cls ≠ "java/lang/invoke/VarHandle" ∧ (parseMethodDescriptor yX8_unseal.desc).map (fun d => d.parameters.length) = some 2 := by decide +kernel
theorem hd_X8_flush : yX8_flush.cls ≠ "java/lang/invoke/MethodHandle" ∧ yX8_flush.cls ≠ "java/lang/invoke/VarHandle" ∧ (parseMethodDescriptor yX8_flush.desc).map (fun d => d.parameters.length) = some 1 := by decide +kernel
theorem hd_X8_thing : yX8_thing.cls ≠ "java/lang/invoke/MethodHandle" ∧ yX8_thing.cls ≠ "java/lang/invoke/VarHandle" ∧ (parseMethodDescriptor yX8_thing.desc).map (fun d => d.parameters.length) = some 2 := by decide +kernel
theorem hd_X8_define : yX8_define.cls ≠ "java/lang/invoke/MethodHandle" ∧ yX8_define.cls ≠ "java/lang/invoke/VarHandle" ∧ (parseMethodDescriptor yX8_define.desc).map (fun d => d.parameters.length) = some 4 := by decide +kernel
theorem hd_X8_undefine : yX8_undefine.cls ≠ "java/lang/invoke/MethodHandle" ∧ yX8_undefine.cls ≠ "java/lang/invoke/VarHandle" ∧ (parseMethodDescriptor yX8_undefine.desc).map (fun d => d.parameters.length) = some 1 := by decide +kernel
theorem hd_X8_write : yX8_write.cls ≠ "java/lang/invoke/MethodHandle" ∧ yX8_write.cls ≠ "java/lang/invoke/VarHandle" ∧ (parseMethodDescriptor yX8_write.desc).map (fun d => d.parameters.length) = some 3 := by decide +kernel
theorem hd_X8_count : yX8_count.cls ≠ "java/lang/invoke/MethodHandle" ∧ yX8_count.cls ≠ "java/lang/invoke/VarHandle" ∧ (parseMethodDescriptor yX8_count.desc).map (fun d => d.parameters.length) = some 2 := by decide +kernel
theorem hd_X8_chain : yX8_chain.cls ≠ "java/lang/invoke/MethodHandle" ∧ yX8_chain.cls ≠ "java/lang/invoke/VarHandle" ∧ (parseMethodDescriptor yX8_chain.desc).map (fun d => d.parameters.length) = some 2 := by decide +kernel
theorem hd_X8_read : yX8_read.cls ≠ "java/lang/invoke/MethodHandle" ∧ yX8_read.cls ≠ "java/lang/invoke/VarHandle" ∧ (parseMethodDescriptor yX8_read.desc).map (fun d => d.parameters.length) = some 2 := by decide +kernel
theorem hd_X8_shut : yX8_shut.cls ≠ "java/lang/invoke/MethodHandle" ∧ yX8_shut.cls ≠ "java/lang/invoke/VarHandle" ∧ (parseMethodDescriptor yX8_shut.desc).map (fun d => d.parameters.length) = some 2 := by decide +kernel
theorem hd_X8_own : yX8_own.cls ≠ "java/lang/invoke/MethodHandle" ∧ yX8_own.cls ≠ "java/lang/invoke/VarHandle" ∧ (parseMethodDescriptor yX8_own.desc).map (fun d => d.parameters.length) = some 0 := by decide +kernel
theorem hd_X8_unlock : yX8_unlock.cls ≠ "java/lang/invoke/MethodHandle" ∧ yX8_unlock.cls ≠ "java/lang/invoke/VarHandle" ∧ (parseMethodDescriptor yX8_unlock.desc).map (fun d => d.parameters.length) = some 0 := by decide +kernel
theorem hd_X8_clear : yX8_clear.cls ≠ "java/lang/invoke/MethodHandle" ∧ yX8_clear.cls ≠ "java/lang/invoke/VarHandle" ∧ (parseMethodDescriptor yX8_clear.desc).map (fun d => d.parameters.length) = some 0 := by decide +kernel
theorem hd_X8_tick : yX8_tick.cls ≠ "java/lang/invoke/MethodHandle" ∧ yX8_tick.cls ≠ "java/lang/invoke/VarHandle" ∧ (parseMethodDescriptor yX8_tick.desc).map (fun d => d.parameters.length) = some 1 := by decide +kernel
theorem hd_X8_restart : yX8_restart.cls ≠ "java/lang/invoke/MethodHandle" ∧ yX8_restart.cls ≠ "java/lang/invoke/VarHandle" ∧ (parseMethodDescriptor yX8_restart.desc).map (fun d => d.parameters.length) = some 0 := by decide +kernel
theorem hd_X8_many : yX8_many.cls ≠ "java/lang/invoke/MethodHandle" ∧ yX8_many.cls ≠ "java/lang/invoke/VarHandle" ∧ (parseMethodDescriptor yX8_many.desc).map (fun d => d.parameters.length) = some 3 := by decide +kernel
theorem hd_X8_look : yX8_look.cls ≠ "java/lang/invoke/MethodHandle" ∧ yX8_look.cls ≠ "java/lang/invoke/VarHandle" ∧ (parseMethodDescriptor yX8_look.desc).map (fun d => d.parameters.length) = some 1 := by decide +kernel
theorem hd_J9_floorMod_7cf53 : yJ9_floorMod_7cf53.cls ≠ "java/lang/invoke/MethodHandle" ∧ yJ9_floorMod_7cf53.cls ≠ "java/lang/invoke/VarHandle" ∧ (parseMethodDescriptor yJ9_floorMod_7cf53.desc).map (fun d => d.parameters.length) = some 2 := by decide +kernel
theorem hd_J9_max_7cf53 : yJ9_max_7cf53.cls ≠ "java/lang/invoke/MethodHandle" ∧ yJ9_max_7cf53.cls ≠ "java/lang/invoke/VarHandle" ∧ (parseMethodDescriptor yJ9_max_7cf53.desc).map (fun d => d.parameters.length) = some 2 := by decide +kernel
theorem hd_J9_max_f86c9 : yJ9_max_f86c9.cls ≠ "java/lang/invoke/MethodHandle" ∧ yJ9_max_f86c9.cls ≠ "java/lang/invoke/VarHandle" ∧ (parseMethodDescriptor yJ9_max_f86c9.desc).map (fun d => d.parameters.length) = some 2 := by decide +kernel
theorem hd_J9_min_7cf53 : yJ9_min_7cf53.cls ≠ "java/lang/invoke/MethodHandle" ∧ yJ9_min_7cf53.cls ≠ "java/lang/invoke/VarHandle" ∧ (parseMethodDescriptor yJ9_min_7cf53.desc).map (fun d => d.parameters.length) = some 2 := by decide +kernel
theorem hd_J7_fill_031fb : yJ7_fill_031fb.cls ≠ "java/lang/invoke/MethodHandle" ∧ yJ7_fill_031fb.cls ≠ "java/lang/invoke/VarHandle" ∧ (parseMethodDescriptor yJ7_fill_031fb.desc).map (fun d => d.parameters.length) = some 2 := by decide +kernel
theorem hd_L_cell : yL_cell.cls ≠ "java/lang/invoke/MethodHandle" ∧ yL_cell.cls ≠ "java/lang/invoke/VarHandle" ∧ (parseMethodDescriptor yL_cell.desc).map (fun d => d.parameters.length) = some 2 := by decide +kernel
theorem hd_L_law : yL_law.cls ≠ "java/lang/invoke/MethodHandle" ∧ yL_law.cls ≠ "java/lang/invoke/VarHandle" ∧ (parseMethodDescriptor yL_law.desc).map (fun d => d.parameters.length) = some 1 := by decide +kernel
end
section
/-! ===== rows of bytes as lists; what a call leaves as it was ===== -/
/-- the first n of a row -/
def mTk (f : Nat → Int8) (n : Nat) : List Int8 := (List.range n).map f
theorem mTk_len (f : Nat → Int8) (n : Nat) : (mTk f n).length = n := by simp [mTk]
theorem mTk_get (f : Nat → Int8) {n j : Nat} (h : j < n) : (mTk f n).getD j 0 = f j := by simp [mTk, h]
theorem mTk_congr {f g : Nat → Int8} {n : Nat} (h : ∀ j, j < n → f j = g j) : mTk f n = mTk g n := by
  unfold mTk
  exact List.map_congr_left (fun j hj => h j (List.mem_range.mp hj))
/-- all cells but those that X names are as before -/
def mSame (X : Nat → Nat → Prop) (S S' : mSt) : Prop := ∀ k i, ¬ X k i → (∀ j, S'.1 k i j = S.1 k i j) ∧ (∀ j, S'.2.1 k i j = S.2.1 k i j) ∧ ∀ j, S'.2.2 k i j = S.2.2 k i j
theorem mSame.rf {X : Nat → Nat → Prop} {S : mSt} : mSame X S S := fun _ _ _ => ⟨fun _ => rfl, fun _ => rfl, fun _ => rfl⟩
theorem mSame.tr {X : Nat → Nat → Prop} {S S1 S2 : mSt} (h1 : mSame X S S1) (h2 : mSame X S1 S2) : mSame X S S2 := fun k i h => ⟨fun j => ((h2 k i h).1 j).trans ((h1 k i h).1 j), fun j => ((h2 k i h).2.1 j).trans ((h1 k i h).2.1 j), fun j => ((h2 k i h).2.2 j).trans ((h1 k i h).2.2 j)⟩
theorem mSame.wk {X X' : Nat → Nat → Prop} {S S1 : mSt} (h : mSame X S S1) (hX : ∀ k i, X k i → X' k i) : mSame X' S S1 := fun k i q => h k i (fun z => q (hX k i z))
theorem mSame.M {X : Nat → Nat → Prop} {S : mSt} {k i j : Nat} {v : Int32} (h : X k i) : mSame X S (mM S k i j v) := fun k' i' q => ⟨fun j' => m3_ne _ _ (fun z => q (by rw [z.1, z.2]; exact h)) j', fun _ => rfl, fun _ => rfl⟩
theorem mSame.B {X : Nat → Nat → Prop} {S : mSt} {k i j : Nat} {v : Int8} (h : X k i) : mSame X S (mB S k i j v) := fun k' i' q => ⟨fun _ => rfl, fun j' => m3_ne _ _ (fun z => q (by rw [z.1, z.2]; exact h)) j', fun _ => rfl⟩
theorem mSame.J {X : Nat → Nat → Prop} {S : mSt} {k i j : Nat} {v : Int64} (h : X k i) : mSame X S (mJ S k i j v) := fun k' i' q => ⟨fun _ => rfl, fun _ => rfl, fun j' => m3_ne _ _ (fun z => q (by rw [z.1, z.2]; exact h)) j'⟩
theorem mSame.AB {X : Nat → Nat → Prop} {S : mSt} {k i : Nat} {g : Nat → Int8} (h : X k i) : mSame X S (mAB S k i g) := fun k' i' q => ⟨fun _ => rfl, fun j' => mA_ne _ _ (fun z => q (by rw [z.1, z.2]; exact h)) j', fun _ => rfl⟩
theorem mSame.AM {X : Nat → Nat → Prop} {S : mSt} {k i : Nat} {g : Nat → Int32} (h : X k i) : mSame X S (mAM S k i g) := fun k' i' q => ⟨fun j' => mA_ne _ _ (fun z => q (by rw [z.1, z.2]; exact h)) j', fun _ => rfl, fun _ => rfl⟩
/-- a Bytes, number i, holds xs -/
def bHas (S : mSt) (i : Nat) (xs : List Int8) : Prop := S.1 2 i 1 = nI xs.length ∧ xs.length ≤ mLn i ∧ ∀ j, j < xs.length → S.2.1 3 i j = xs.getD j 0
/-- the cells of a Bytes -/
def bX (i : Nat) : Nat → Nat → Prop := fun k i' => (k = 2 ∨ k = 3) ∧ i' = i
/-- four bytes of a number, the highest first -/
def w4 (x : Int32) : List Int8 := [((x.toUInt32 >>> ((24 : Int32).toUInt32 &&& Int32.toUInt32 31)).toInt32).toInt8, ((x.toUInt32 >>> ((16 : Int32).toUInt32 &&& Int32.toUInt32 31)).toInt32).toInt8, ((x.toUInt32 >>> ((8 : Int32).toUInt32 &&& Int32.toUInt32 31)).toInt32).toInt8, x.toInt8]
theorem bHas.keep {X : Nat → Nat → Prop} {S S' : mSt} {i : Nat} {xs : List Int8} (h : bHas S i xs) (hs : mSame X S S') (h2 : ¬ X 2 i) (h3 : ¬ X 3 i) : bHas S' i xs :=
  ⟨((hs 2 i h2).1 1).trans h.1, h.2.1, fun j hj => ((hs 3 i h3).2.1 j).trans (h.2.2 j hj)⟩
theorem bHas.put {S : mSt} {i : Nat} {xs : List Int8} {b : Int8} (h : bHas S i xs) (hle : xs.length + 1 ≤ mLn i) : bHas (mM (mB S 3 i xs.length b) 2 i 1 (nI (xs.length + 1))) i (xs ++ [b]) := by
  refine ⟨by simp [mM, m3], by simpa using hle, fun j hj => ?_⟩
  simp only [mM, mB, m3]
  rw [List.length_append, List.length_singleton] at hj
  by_cases hq : j = xs.length
  · subst hq
    simp
  · have hj' : j < xs.length := by omega
    simp only [hq, and_false, if_false]
    rw [h.2.2 j hj']
    simp [List.getD_eq_getElem?_getD, List.getElem?_append_left hj']
theorem bHas.all {S : mSt} {i : Nat} {xs : List Int8} {f : Nat → Int8} {n : Nat} (h : bHas S i xs) (hle : xs.length + n ≤ mLn i) : bHas (mM (mAB S 3 i (va_cpy f (S.2.1 3 i) 0 xs.length n)) 2 i 1 (nI (xs.length + n))) i (xs ++ mTk f n) := by
  refine ⟨by simp [mM, m3, mTk_len], by simpa [mTk_len] using hle, fun j hj => ?_⟩
  rw [List.length_append, mTk_len] at hj
  show mA S.2.1 3 i (va_cpy f (S.2.1 3 i) 0 xs.length n) 3 i j = _
  rw [mA, if_pos ⟨rfl, rfl⟩]
  by_cases hq : j < xs.length
  · rw [pk_cpy_out (Or.inl hq), h.2.2 j hq]
    simp [List.getD_eq_getElem?_getD, List.getElem?_append_left hq]
  · rw [pk_cpy_in (by omega) (by omega), List.getD_eq_getElem?_getD, List.getElem?_append_right (by omega), ← List.getD_eq_getElem?_getD, mTk_get f (by omega)]
    simp
theorem nI_s (a : Nat) : nI a + nI 1 = nI (a + 1) := nI_add a 1
theorem nI_lit1 : (1 : Int32) = nI 1 := rfl
end
section
/-- the number that four bytes spell -/
def mW4 (f : Nat → Int8) (a : Nat) : Int32 := (f a).toInt32 <<< ((24 : Int32) &&& 31) ||| ((f (a + 1)).toInt32 &&& 255) <<< ((16 : Int32) &&& 31) ||| ((f (a + 2)).toInt32 &&& 255) <<< ((8 : Int32) &&& 31) ||| ((f (a + 3)).toInt32 &&& 255)
set_option maxHeartbeats 4000000 in
set_option maxRecDepth 100000 in
/-- Bytes.hasRoomFor -/
theorem c_X0_hasRoomFor (l : Launch) (E : mEv) (A : Nat → Prop) (hO : mOwn mLC E A) (S : mSt) (i : Nat) (hi : i < 15) (xs : List Int8) (hxs : bHas S i xs) (x : Int32) : Met l yX0_hasRoomFor (Cond.code yX0_hasRoomFor cX0_hasRoomFor 2 (some .boolean) :: mv_ws) (mRm 0 0) (mPc mLC E A S [.ref (mAdC E 2 i), .int x]) (mQ mLC E A (fun S' => S' = S) (some (.int (if x ≤ nI (mLn i - xs.length) then 1 else 0)))) 0 0 A := by
  refine Met.ofW (cc := cX0_hasRoomFor) (maxL := 2) (ret := (some .boolean)) (by decide) rfl ?_
  intro p e s m args below meth c s₁ B hml hv
  obtain ⟨rfl, hG, hH⟩ := hv
  have hx := B.exec
  have hb := B.bytes
  have hr := B.returns
  have hlocks := B.notSynchronized
  have Cx : CallFix p m c cX0_hasRoomFor 2 s ([.ref (mAdC E 2 i), .int x] : List Value).toArray (Cond.code yX0_hasRoomFor cX0_hasRoomFor 2 (some .boolean) :: mv_ws) RX0 := ⟨hx, hb, hml, findClass_of_methodNamed B.named, atoms_spec (ws := Cond.code yX0_hasRoomFor cX0_hasRoomFor 2 (some .boolean) :: mv_ws) B.pre⟩
  have hS : va_S A s.heap s.heap [] := va_S.rf
  have hl := lv_entry ([.ref (mAdC E 2 i), .int x]) (n := 2) (Nat.le_of_ble_eq_true rfl)
  rw [lg_entry_eq]
  generalize (lg_sl ([.ref (mAdC E 2 i), .int x]) ++ List.replicate (2 - (lg_sl ([.ref (mAdC E 2 i), .int x])).length) Slot.unset).toArray = ls at hl ⊢
  have hl : lv_has ls 2 [(0, .ref (mAdC E 2 i)), (1, .int x)] := hl
  refine lv_iload_n hx hb dX0_hasRoomFor_0 rfl (lv_at hl 1 rfl) ?_
  refine lv_aload_n hx hb dX0_hasRoomFor_1 rfl (lv_at hl 0 rfl) ?_
  refine g_X0_held Cx hG hH hi q_fl_X0_7 dX0_hasRoomFor_2 ?_
  refine mv_blen Cx hG hH (isC_3 hi) dX0_hasRoomFor_5 ?_
  refine lv_aload_n hx hb dX0_hasRoomFor_6 rfl (lv_at hl 0 rfl) ?_
  refine g_X0_size Cx hG hH hi q_fl_X0_13 dX0_hasRoomFor_7 ?_
  refine mv_eqi (x' := nI xs.length) (hxs.1) ?_
  refine lv_isub hx hb dX0_hasRoomFor_10 ?_
  refine mv_eqi (x' := nI (mLn i - xs.length)) (pk_sub hxs.2.1) ?_
  refine lv_icmp_gt (tgt := 18) hx hb dX0_hasRoomFor_11 (by decide) (fun h11 => ?_) (fun h11 => ?_)
  · skip
    refine lv_iconst (v := 0) hx hb dX0_hasRoomFor_18 (by decide) ?_
    exact mv_retz Cx hr hH hS (by decide) ((if_neg (Int32.not_le.mpr h11)).symm) (rfl) dX0_hasRoomFor_19 hlocks
  · skip
    refine lv_iconst (v := 1) hx hb dX0_hasRoomFor_14 (by decide) ?_
    refine lv_goto (tgt := 19) hx hb dX0_hasRoomFor_15 (by decide) ?_
    exact mv_retz Cx hr hH hS (by decide) ((if_pos (Int32.not_lt.mp h11)).symm) (rfl) dX0_hasRoomFor_19 hlocks

set_option maxHeartbeats 4000000 in
set_option maxRecDepth 100000 in
/-- Bytes.put -/
theorem c_X0_put (l : Launch) (E : mEv) (A : Nat → Prop) (hO : mOwn mLC E A) (S : mSt) (i : Nat) (hi : i < 15) (xs : List Int8) (hxs : bHas S i xs) (x : Int32) (hle : xs.length + 1 ≤ mLn i) : Met l yX0_put (Cond.code yX0_put cX0_put 2 none :: mv_ws) (mRm 0 0) (mPc mLC E A S [.ref (mAdC E 2 i), .int x]) (mQ mLC E A (fun S' => bHas S' i (xs ++ [x.toInt8]) ∧ mSame (bX i) S S') none) 0 0 A := by
  refine Met.ofW (cc := cX0_put) (maxL := 2) (ret := none) (by decide) rfl ?_
  intro p e s m args below meth c s₁ B hml hv
  obtain ⟨rfl, hG, hH⟩ := hv
  have hx := B.exec
  have hb := B.bytes
  have hr := B.returns
  have hlocks := B.notSynchronized
  have Cx : CallFix p m c cX0_put 2 s ([.ref (mAdC E 2 i), .int x] : List Value).toArray (Cond.code yX0_put cX0_put 2 none :: mv_ws) RX0 := ⟨hx, hb, hml, findClass_of_methodNamed B.named, atoms_spec (ws := Cond.code yX0_put cX0_put 2 none :: mv_ws) B.pre⟩
  have hS : va_S A s.heap s.heap [] := va_S.rf
  have hl := lv_entry ([.ref (mAdC E 2 i), .int x]) (n := 2) (Nat.le_of_ble_eq_true rfl)
  rw [lg_entry_eq]
  generalize (lg_sl ([.ref (mAdC E 2 i), .int x]) ++ List.replicate (2 - (lg_sl ([.ref (mAdC E 2 i), .int x])).length) Slot.unset).toArray = ls at hl ⊢
  have hl : lv_has ls 2 [(0, .ref (mAdC E 2 i)), (1, .int x)] := hl
  refine lv_aload_n hx hb dX0_put_0 rfl (lv_at hl 0 rfl) ?_
  refine g_X0_size Cx hG hH hi q_fl_X0_13 dX0_put_1 ?_
  refine mv_eqi (x' := nI xs.length) (hxs.1) ?_
  refine lv_aload_n hx hb dX0_put_4 rfl (lv_at hl 0 rfl) ?_
  refine g_X0_held Cx hG hH hi q_fl_X0_7 dX0_put_5 ?_
  refine mv_blen Cx hG hH (isC_3 hi) dX0_put_8 ?_
  refine lv_icmp_ge (tgt := 33) hx hb dX0_put_9 (by decide) (fun h9 => ?_) (fun h9 => ?_)
  · skip
    exact absurd h9 (nI_ge (by omega) (mLn_lt i))
  · skip
    refine lv_aload_n hx hb dX0_put_12 rfl (lv_at hl 0 rfl) ?_
    refine g_X0_held Cx hG hH hi q_fl_X0_7 dX0_put_13 ?_
    refine lv_aload_n hx hb dX0_put_16 rfl (lv_at hl 0 rfl) ?_
    refine g_X0_size Cx hG hH hi q_fl_X0_13 dX0_put_17 ?_
    refine mv_eqi (x' := nI xs.length) (hxs.1) ?_
    refine lv_iload_n hx hb dX0_put_20 rfl (lv_at hl 1 rfl) ?_
    refine lv_i2b hx hb dX0_put_21 rfl ?_
    refine mv_bas8 Cx hG hO hH hS (isC_3 hi) xs.length x.toInt8 rfl (rfl) (by omega) dX0_put_22 (fun H locs hH hS => ?_)
    refine lv_aload_n hx hb dX0_put_23 rfl (lv_at hl 0 rfl) ?_
    refine lv_dup hx hb dX0_put_24 rfl ?_
    refine g_X0_size Cx hG hH hi q_fl_X0_13 dX0_put_25 ?_
    refine mv_eqi (x' := nI xs.length) (by simpa [mB] using hxs.1) ?_
    refine lv_iconst (v := 1) hx hb dX0_put_28 (by decide) ?_
    refine lv_iadd hx hb dX0_put_29 ?_
    refine mv_eqi (x' := nI (xs.length + 1)) (nI_1 _) ?_
    refine p_X0_size Cx hG hO hH hS hi q_fl_X0_13 dX0_put_30 (fun H locs hH hS => ?_)
    exact mv_retv Cx hr hH hS (⟨hxs.put hle, (mSame.B ⟨Or.inr rfl, rfl⟩).tr (mSame.M ⟨Or.inl rfl, rfl⟩)⟩) dX0_put_33 hlocks

set_option maxHeartbeats 4000000 in
set_option maxRecDepth 100000 in
/-- Bytes.putInt -/
theorem c_X0_putInt (l : Launch) (E : mEv) (A : Nat → Prop) (hO : mOwn mLC E A) (S : mSt) (i : Nat) (hi : i < 15) (xs : List Int8) (hxs : bHas S i xs) (x : Int32) (hle : xs.length + 4 ≤ mLn i) : Met l yX0_putInt (Cond.code yX0_putInt cX0_putInt 2 none :: mv_ws) (mRm 1 21) (mPc mLC E A S [.ref (mAdC E 2 i), .int x]) (mQ mLC E A (fun S' => bHas S' i (xs ++ w4 x) ∧ mSame (bX i) S S') none) 0 0 A := by
  refine Met.ofW (cc := cX0_putInt) (maxL := 2) (ret := none) (by decide) rfl ?_
  intro p e s m args below meth c s₁ B hml hv
  obtain ⟨rfl, hG, hH⟩ := hv
  have hx := B.exec
  have hb := B.bytes
  have hr := B.returns
  have hlocks := B.notSynchronized
  have Cx : CallFix p m c cX0_putInt 2 s ([.ref (mAdC E 2 i), .int x] : List Value).toArray (Cond.code yX0_putInt cX0_putInt 2 none :: mv_ws) RX0 := ⟨hx, hb, hml, findClass_of_methodNamed B.named, atoms_spec (ws := Cond.code yX0_putInt cX0_putInt 2 none :: mv_ws) B.pre⟩
  have hS : va_S A s.heap s.heap [] := va_S.rf
  have hl := lv_entry ([.ref (mAdC E 2 i), .int x]) (n := 2) (Nat.le_of_ble_eq_true rfl)
  rw [lg_entry_eq]
  generalize (lg_sl ([.ref (mAdC E 2 i), .int x]) ++ List.replicate (2 - (lg_sl ([.ref (mAdC E 2 i), .int x])).length) Slot.unset).toArray = ls at hl ⊢
  have hl : lv_has ls 2 [(0, .ref (mAdC E 2 i)), (1, .int x)] := hl
  refine lv_aload_n hx hb dX0_putInt_0 rfl (lv_at hl 0 rfl) ?_
  refine lv_iload_n hx hb dX0_putInt_1 rfl (lv_at hl 1 rfl) ?_
  refine lv_bipush (v := 24) hx hb dX0_putInt_2 (by decide) ?_
  refine lv_iushr hx hb dX0_putInt_4 rfl ?_
  refine mv_callV (Y := mLC) (C := RX0) (k := 2) (i := i) (rest := []) Cx hG hH hS (c_X0_put l E A hO S i hi xs hxs ((x.toUInt32 >>> ((24 : Int32).toUInt32 &&& Int32.toUInt32 31)).toInt32) (by (try simp only [List.length_append, List.length_singleton]); omega)) q_co_X0_put q_ml_X0_17 q_im_X0_put q_se_X0_put q_in_X0 (okC_2 hi) rfl rfl hd_X0_put ⟨Nat.le_of_ble_eq_true rfl, Nat.le_of_ble_eq_true rfl⟩ rfl hl.1 rfl (Nat.le_of_ble_eq_true rfl) ⟨Nat.le_of_ble_eq_true rfl, Nat.le_of_ble_eq_true rfl⟩ dX0_putInt_5 (fun S5 H locs hP5 hH hS => ?_)
  refine W.eq (g2 := F0 m 8 ls []) rfl ?_
  refine lv_aload_n hx hb dX0_putInt_8 rfl (lv_at hl 0 rfl) ?_
  refine lv_iload_n hx hb dX0_putInt_9 rfl (lv_at hl 1 rfl) ?_
  refine lv_bipush (v := 16) hx hb dX0_putInt_10 (by decide) ?_
  refine lv_iushr hx hb dX0_putInt_12 rfl ?_
  refine mv_callV (Y := mLC) (C := RX0) (k := 2) (i := i) (rest := []) Cx hG hH hS (c_X0_put l E A hO S5 i hi (xs ++ [((x.toUInt32 >>> ((24 : Int32).toUInt32 &&& Int32.toUInt32 31)).toInt32).toInt8]) hP5.1 ((x.toUInt32 >>> ((16 : Int32).toUInt32 &&& Int32.toUInt32 31)).toInt32) (by (try simp only [List.length_append, List.length_singleton]); omega)) q_co_X0_put q_ml_X0_17 q_im_X0_put q_se_X0_put q_in_X0 (okC_2 hi) rfl rfl hd_X0_put ⟨Nat.le_of_ble_eq_true rfl, Nat.le_of_ble_eq_true rfl⟩ rfl hl.1 rfl (Nat.le_of_ble_eq_true rfl) ⟨Nat.le_of_ble_eq_true rfl, Nat.le_of_ble_eq_true rfl⟩ dX0_putInt_13 (fun S13 H locs hP13 hH hS => ?_)
  refine W.eq (g2 := F0 m 16 ls []) rfl ?_
  refine lv_aload_n hx hb dX0_putInt_16 rfl (lv_at hl 0 rfl) ?_
  refine lv_iload_n hx hb dX0_putInt_17 rfl (lv_at hl 1 rfl) ?_
  refine lv_bipush (v := 8) hx hb dX0_putInt_18 (by decide) ?_
  refine lv_iushr hx hb dX0_putInt_20 rfl ?_
  refine mv_callV (Y := mLC) (C := RX0) (k := 2) (i := i) (rest := []) Cx hG hH hS (c_X0_put l E A hO S13 i hi ((xs ++ [((x.toUInt32 >>> ((24 : Int32).toUInt32 &&& Int32.toUInt32 31)).toInt32).toInt8]) ++ [((x.toUInt32 >>> ((16 : Int32).toUInt32 &&& Int32.toUInt32 31)).toInt32).toInt8]) hP13.1 ((x.toUInt32 >>> ((8 : Int32).toUInt32 &&& Int32.toUInt32 31)).toInt32) (by (try simp only [List.length_append, List.length_singleton]); omega)) q_co_X0_put q_ml_X0_17 q_im_X0_put q_se_X0_put q_in_X0 (okC_2 hi) rfl rfl hd_X0_put ⟨Nat.le_of_ble_eq_true rfl, Nat.le_of_ble_eq_true rfl⟩ rfl hl.1 rfl (Nat.le_of_ble_eq_true rfl) ⟨Nat.le_of_ble_eq_true rfl, Nat.le_of_ble_eq_true rfl⟩ dX0_putInt_21 (fun S21 H locs hP21 hH hS => ?_)
  refine W.eq (g2 := F0 m 24 ls []) rfl ?_
  refine lv_aload_n hx hb dX0_putInt_24 rfl (lv_at hl 0 rfl) ?_
  refine lv_iload_n hx hb dX0_putInt_25 rfl (lv_at hl 1 rfl) ?_
  refine mv_callV (Y := mLC) (C := RX0) (k := 2) (i := i) (rest := []) Cx hG hH hS (c_X0_put l E A hO S21 i hi (((xs ++ [((x.toUInt32 >>> ((24 : Int32).toUInt32 &&& Int32.toUInt32 31)).toInt32).toInt8]) ++ [((x.toUInt32 >>> ((16 : Int32).toUInt32 &&& Int32.toUInt32 31)).toInt32).toInt8]) ++ [((x.toUInt32 >>> ((8 : Int32).toUInt32 &&& Int32.toUInt32 31)).toInt32).toInt8]) hP21.1 x (by (try simp only [List.length_append, List.length_singleton]); omega)) q_co_X0_put q_ml_X0_17 q_im_X0_put q_se_X0_put q_in_X0 (okC_2 hi) rfl rfl hd_X0_put ⟨Nat.le_of_ble_eq_true rfl, Nat.le_of_ble_eq_true rfl⟩ rfl hl.1 rfl (Nat.le_of_ble_eq_true rfl) ⟨Nat.le_of_ble_eq_true rfl, Nat.le_of_ble_eq_true rfl⟩ dX0_putInt_26 (fun S26 H locs hP26 hH hS => ?_)
  refine W.eq (g2 := F0 m 29 ls []) rfl ?_
  exact mv_retv Cx hr hH hS (⟨by have h := hP26.1; simpa [w4] using h, ((hP5.2.tr hP13.2).tr hP21.2).tr hP26.2⟩) dX0_putInt_29 hlocks

set_option maxHeartbeats 4000000 in
set_option maxRecDepth 100000 in
/-- Bytes.putAll -/
theorem c_X0_putAll (l : Launch) (E : mEv) (A : Nat → Prop) (hO : mOwn mLC E A) (S : mSt) (i : Nat) (hi : i < 15) (xs : List Int8) (hxs : bHas S i xs) (k0 i0 n0 n : Nat) (hB : mIsB mLC k0 i0 n0) (hn : n ≤ n0) (hle : xs.length + n ≤ mLn i) : Met l yX0_putAll (Cond.code yX0_putAll cX0_putAll 4 none :: mv_ws) (mRm 1 40) (mPc mLC E A S [.ref (mAdC E 2 i), .ref (mAdC E k0 i0), .int (nI n)]) (mQ mLC E A (fun S' => bHas S' i (xs ++ mTk (S.2.1 k0 i0) n) ∧ mSame (bX i) S S') none) 0 0 A := by
  refine Met.ofW (cc := cX0_putAll) (maxL := 4) (ret := none) (by decide) rfl ?_
  intro p e s m args below meth c s₁ B hml hv
  obtain ⟨rfl, hG, hH⟩ := hv
  have hx := B.exec
  have hb := B.bytes
  have hr := B.returns
  have hlocks := B.notSynchronized
  have Cx : CallFix p m c cX0_putAll 4 s ([.ref (mAdC E 2 i), .ref (mAdC E k0 i0), .int (nI n)] : List Value).toArray (Cond.code yX0_putAll cX0_putAll 4 none :: mv_ws) RX0 := ⟨hx, hb, hml, findClass_of_methodNamed B.named, atoms_spec (ws := Cond.code yX0_putAll cX0_putAll 4 none :: mv_ws) B.pre⟩
  have hS : va_S A s.heap s.heap [] := va_S.rf
  have hn0 := hB.2.1
  have hl := lv_entry ([.ref (mAdC E 2 i), .ref (mAdC E k0 i0), .int (nI n)]) (n := 4) (Nat.le_of_ble_eq_true rfl)
  rw [lg_entry_eq]
  generalize (lg_sl ([.ref (mAdC E 2 i), .ref (mAdC E k0 i0), .int (nI n)]) ++ List.replicate (4 - (lg_sl ([.ref (mAdC E 2 i), .ref (mAdC E k0 i0), .int (nI n)])).length) Slot.unset).toArray = ls at hl ⊢
  have hl : lv_has ls 4 [(0, .ref (mAdC E 2 i)), (1, .ref (mAdC E k0 i0)), (2, .int (nI n))] := hl
  refine lv_iload_n hx hb dX0_putAll_0 rfl (lv_at hl 2 rfl) ?_
  refine lv_aload_n hx hb dX0_putAll_1 rfl (lv_at hl 0 rfl) ?_
  refine g_X0_held Cx hG hH hi q_fl_X0_7 dX0_putAll_2 ?_
  refine mv_blen Cx hG hH (isC_3 hi) dX0_putAll_5 ?_
  refine lv_aload_n hx hb dX0_putAll_6 rfl (lv_at hl 0 rfl) ?_
  refine g_X0_size Cx hG hH hi q_fl_X0_13 dX0_putAll_7 ?_
  refine mv_eqi (x' := nI xs.length) (hxs.1) ?_
  refine lv_isub hx hb dX0_putAll_10 ?_
  refine mv_eqi (x' := nI (mLn i - xs.length)) (pk_sub hxs.2.1) ?_
  refine va_mmin hx hb (Cx.2.2.1.trans hl.1.symm) Cx.2.2.2.1 (Cx.2.2.2.2 _ (List.mem_cons_of_mem _ q_ml_X0_21)) (Cx.2.2.2.2 _ (List.mem_cons_of_mem _ q_st_J9_min_7cf53)) (Cx.2.2.2.2 _ (List.mem_cons_of_mem _ q_in_J9)) (Cx.2.2.2.2 _ (List.mem_cons_of_mem _ q_co_J9_min_7cf53)) (Nat.le_of_ble_eq_true rfl) (Nat.le_of_ble_eq_true rfl) (Nat.le_refl _) (Nat.le_refl _) dX0_putAll_11 ?_
  refine mv_eqi (x' := nI n) (if_neg (nI_nlt (by omega) (by have := mLn_lt i; omega))) ?_
  refine lv_istore_n (lv' := [(3, .int (nI n)), (0, .ref (mAdC E 2 i)), (1, .ref (mAdC E k0 i0)), (2, .int (nI n))]) hx hb dX0_putAll_14 rfl hl (by decide) rfl (fun ls hl => ?_)
  refine lv_aload_n hx hb dX0_putAll_15 rfl (lv_at hl 2 rfl) ?_
  refine lv_iconst (v := 0) hx hb dX0_putAll_16 (by decide) ?_
  refine lv_aload_n hx hb dX0_putAll_17 rfl (lv_at hl 1 rfl) ?_
  refine g_X0_held Cx hG hH hi q_fl_X0_7 dX0_putAll_18 ?_
  refine lv_aload_n hx hb dX0_putAll_21 rfl (lv_at hl 1 rfl) ?_
  refine g_X0_size Cx hG hH hi q_fl_X0_13 dX0_putAll_22 ?_
  refine mv_eqi (x' := nI xs.length) (hxs.1) ?_
  refine lv_iload_n hx hb dX0_putAll_25 rfl (lv_at hl 0 rfl) ?_
  refine mv_cpb Cx hG hO hH hS hB (isC_3 hi) 0 xs.length n (rfl) (rfl) (rfl) (by omega) (hle) q_ml_X0_27 hl.1 (Nat.le_of_ble_eq_true rfl) (by decide) dX0_putAll_26 (fun H locs hH hS => ?_)
  refine lv_aload_n hx hb dX0_putAll_29 rfl (lv_at hl 1 rfl) ?_
  refine lv_dup hx hb dX0_putAll_30 rfl ?_
  refine g_X0_size Cx hG hH hi q_fl_X0_13 dX0_putAll_31 ?_
  refine mv_eqi (x' := nI xs.length) (by simpa [mAB] using hxs.1) ?_
  refine lv_iload_n hx hb dX0_putAll_34 rfl (lv_at hl 0 rfl) ?_
  refine lv_iadd hx hb dX0_putAll_35 ?_
  refine mv_eqi (x' := nI (xs.length + n)) (nI_add _ _) ?_
  refine p_X0_size Cx hG hO hH hS hi q_fl_X0_13 dX0_putAll_36 (fun H locs hH hS => ?_)
  exact mv_retv Cx hr hH hS (⟨hxs.all hle, (mSame.AB ⟨Or.inr rfl, rfl⟩).tr (mSame.M ⟨Or.inl rfl, rfl⟩)⟩) dX0_putAll_39 hlocks

set_option maxHeartbeats 4000000 in
set_option maxRecDepth 100000 in
/-- Bytes.intAt -/
theorem c_X0_intAt (l : Launch) (E : mEv) (A : Nat → Prop) (hO : mOwn mLC E A) (S : mSt) (i : Nat) (hi : i < 15) (a : Nat) (ha : a + 4 ≤ mLn i) : Met l yX0_intAt (Cond.code yX0_intAt cX0_intAt 2 (some .int) :: mv_ws) (mRm 0 0) (mPc mLC E A S [.ref (mAdC E 2 i), .int (nI a)]) (mQ mLC E A (fun S' => S' = S) (some (.int (mW4 (S.2.1 3 i) a)))) 0 0 A := by
  refine Met.ofW (cc := cX0_intAt) (maxL := 2) (ret := (some .int)) (by decide) rfl ?_
  intro p e s m args below meth c s₁ B hml hv
  obtain ⟨rfl, hG, hH⟩ := hv
  have hx := B.exec
  have hb := B.bytes
  have hr := B.returns
  have hlocks := B.notSynchronized
  have Cx : CallFix p m c cX0_intAt 2 s ([.ref (mAdC E 2 i), .int (nI a)] : List Value).toArray (Cond.code yX0_intAt cX0_intAt 2 (some .int) :: mv_ws) RX0 := ⟨hx, hb, hml, findClass_of_methodNamed B.named, atoms_spec (ws := Cond.code yX0_intAt cX0_intAt 2 (some .int) :: mv_ws) B.pre⟩
  have hS : va_S A s.heap s.heap [] := va_S.rf
  have hl := lv_entry ([.ref (mAdC E 2 i), .int (nI a)]) (n := 2) (Nat.le_of_ble_eq_true rfl)
  rw [lg_entry_eq]
  generalize (lg_sl ([.ref (mAdC E 2 i), .int (nI a)]) ++ List.replicate (2 - (lg_sl ([.ref (mAdC E 2 i), .int (nI a)])).length) Slot.unset).toArray = ls at hl ⊢
  have hl : lv_has ls 2 [(0, .ref (mAdC E 2 i)), (1, .int (nI a))] := hl
  refine lv_iload_n hx hb dX0_intAt_0 rfl (lv_at hl 1 rfl) ?_
  refine lv_if_lt (tgt := 15) hx hb dX0_intAt_1 (by decide) (fun h1 => ?_) (fun h1 => ?_)
  · skip
    exact absurd h1 (nI_pos (by have := mLn_lt i; omega))
  · skip
    refine lv_iload_n hx hb dX0_intAt_4 rfl (lv_at hl 1 rfl) ?_
    refine lv_aload_n hx hb dX0_intAt_5 rfl (lv_at hl 0 rfl) ?_
    refine g_X0_held Cx hG hH hi q_fl_X0_7 dX0_intAt_6 ?_
    refine mv_blen Cx hG hH (isC_3 hi) dX0_intAt_9 ?_
    refine lv_iconst (v := 4) hx hb dX0_intAt_10 (by decide) ?_
    refine lv_isub hx hb dX0_intAt_11 ?_
    refine mv_eqi (x' := nI (mLn i - 4)) (pk_sub (a := mLn i) (b := 4) (by omega)) ?_
    refine lv_icmp_le (tgt := 17) hx hb dX0_intAt_12 (by decide) (fun h12 => ?_) (fun h12 => ?_)
    · skip
      refine lv_aload_n hx hb dX0_intAt_17 rfl (lv_at hl 0 rfl) ?_
      refine g_X0_held Cx hG hH hi q_fl_X0_7 dX0_intAt_18 ?_
      refine lv_iload_n hx hb dX0_intAt_21 rfl (lv_at hl 1 rfl) ?_
      refine mv_bal Cx hG hH (isC_3 hi) a (rfl) (by omega) dX0_intAt_22 ?_
      refine lv_bipush (v := 24) hx hb dX0_intAt_23 (by decide) ?_
      refine lv_ishl hx hb dX0_intAt_25 ?_
      refine lv_aload_n hx hb dX0_intAt_26 rfl (lv_at hl 0 rfl) ?_
      refine g_X0_held Cx hG hH hi q_fl_X0_7 dX0_intAt_27 ?_
      refine lv_iload_n hx hb dX0_intAt_30 rfl (lv_at hl 1 rfl) ?_
      refine lv_iconst (v := 1) hx hb dX0_intAt_31 (by decide) ?_
      refine lv_iadd hx hb dX0_intAt_32 ?_
      refine mv_bal Cx hG hH (isC_3 hi) (a + 1) (nI_add a 1) (by omega) dX0_intAt_33 ?_
      refine lv_sipush (v := 255) hx hb dX0_intAt_34 (by decide) ?_
      refine lv_iand hx hb dX0_intAt_37 ?_
      refine lv_bipush (v := 16) hx hb dX0_intAt_38 (by decide) ?_
      refine lv_ishl hx hb dX0_intAt_40 ?_
      refine lv_ior hx hb dX0_intAt_41 ?_
      refine lv_aload_n hx hb dX0_intAt_42 rfl (lv_at hl 0 rfl) ?_
      refine g_X0_held Cx hG hH hi q_fl_X0_7 dX0_intAt_43 ?_
      refine lv_iload_n hx hb dX0_intAt_46 rfl (lv_at hl 1 rfl) ?_
      refine lv_iconst (v := 2) hx hb dX0_intAt_47 (by decide) ?_
      refine lv_iadd hx hb dX0_intAt_48 ?_
      refine mv_bal Cx hG hH (isC_3 hi) (a + 2) (nI_add a 2) (by omega) dX0_intAt_49 ?_
      refine lv_sipush (v := 255) hx hb dX0_intAt_50 (by decide) ?_
      refine lv_iand hx hb dX0_intAt_53 ?_
      refine lv_bipush (v := 8) hx hb dX0_intAt_54 (by decide) ?_
      refine lv_ishl hx hb dX0_intAt_56 ?_
      refine lv_ior hx hb dX0_intAt_57 ?_
      refine lv_aload_n hx hb dX0_intAt_58 rfl (lv_at hl 0 rfl) ?_
      refine g_X0_held Cx hG hH hi q_fl_X0_7 dX0_intAt_59 ?_
      refine lv_iload_n hx hb dX0_intAt_62 rfl (lv_at hl 1 rfl) ?_
      refine lv_iconst (v := 3) hx hb dX0_intAt_63 (by decide) ?_
      refine lv_iadd hx hb dX0_intAt_64 ?_
      refine mv_bal Cx hG hH (isC_3 hi) (a + 3) (nI_add a 3) (by omega) dX0_intAt_65 ?_
      refine lv_sipush (v := 255) hx hb dX0_intAt_66 (by decide) ?_
      refine lv_iand hx hb dX0_intAt_69 ?_
      refine lv_ior hx hb dX0_intAt_70 ?_
      exact mv_reti Cx hr hH hS (rfl) (rfl) dX0_intAt_71 hlocks
    · skip
      exact absurd (nI_le (by omega) (by have := mLn_lt i; omega)) h12
end
