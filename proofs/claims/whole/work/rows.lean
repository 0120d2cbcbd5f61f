section
-- ===== PART A: goes FIRST, ahead of the names: the tables' words, and 'selects' of the private methods out of them =====
/-- a private method of a class that the tables say can be made, by its rows of tables_1 -/
def lw_okq (q : MethodName × Nat) : Prop := (q.1.cls ≠ "java/lang/invoke/MethodHandle" ∧ q.1.cls ≠ "java/lang/invoke/VarHandle") ∧ Cond.instantiable q.1.cls q.2 ∈ tables_1 ∧ Cond.privateMethod q.1 ∈ tables_1 ∧ Cond.instanceMethod q.1 ∈ tables_1
theorem lw_p0 : lw_okq (⟨"SpendScript", "scriptAt", "(I)LSpendScript$ByteString;"⟩, 10) := ⟨⟨by decide +kernel, by decide +kernel⟩, List.mem_of_getElem? (i := 12) (by decide +kernel), List.mem_of_getElem? (i := 167) (by decide +kernel), List.mem_of_getElem? (i := 168) (by decide +kernel)⟩
theorem lw_p1 : lw_okq (⟨"SpendScript$Machine", "meetPush", "(LSpendScript$ByteString;I)I"⟩, 7) := ⟨⟨by decide +kernel, by decide +kernel⟩, List.mem_of_getElem? (i := 69) (by decide +kernel), List.mem_of_getElem? (i := 236) (by decide +kernel), List.mem_of_getElem? (i := 237) (by decide +kernel)⟩
theorem lw_p2 : lw_okq (⟨"SpendScript$Machine", "formFault", "(LSpendScript$ByteString;I)I"⟩, 7) := ⟨⟨by decide +kernel, by decide +kernel⟩, List.mem_of_getElem? (i := 69) (by decide +kernel), List.mem_of_getElem? (i := 240) (by decide +kernel), List.mem_of_getElem? (i := 241) (by decide +kernel)⟩
theorem lw_p3 : lw_okq (⟨"SpendScript$Machine", "meetOperation", "(I)I"⟩, 7) := ⟨⟨by decide +kernel, by decide +kernel⟩, List.mem_of_getElem? (i := 69) (by decide +kernel), List.mem_of_getElem? (i := 274) (by decide +kernel), List.mem_of_getElem? (i := 275) (by decide +kernel)⟩
theorem lw_p4 : lw_okq (⟨"SpendScript$Machine", "openBranch", "(Z)I"⟩, 7) := ⟨⟨by decide +kernel, by decide +kernel⟩, List.mem_of_getElem? (i := 69) (by decide +kernel), List.mem_of_getElem? (i := 281) (by decide +kernel), List.mem_of_getElem? (i := 282) (by decide +kernel)⟩
theorem lw_p5 : lw_okq (⟨"SpendScript$Machine", "turnBranch", "(Z)I"⟩, 7) := ⟨⟨by decide +kernel, by decide +kernel⟩, List.mem_of_getElem? (i := 69) (by decide +kernel), List.mem_of_getElem? (i := 313) (by decide +kernel), List.mem_of_getElem? (i := 314) (by decide +kernel)⟩
theorem lw_p6 : lw_okq (⟨"SpendScript$Operations", "calculate", "(I)I"⟩, 3) := ⟨⟨by decide +kernel, by decide +kernel⟩, List.mem_of_getElem? (i := 91) (by decide +kernel), List.mem_of_getElem? (i := 334) (by decide +kernel), List.mem_of_getElem? (i := 335) (by decide +kernel)⟩
theorem lw_p7 : lw_okq (⟨"SpendScript$Operations", "numberFault", "(I)I"⟩, 3) := ⟨⟨by decide +kernel, by decide +kernel⟩, List.mem_of_getElem? (i := 91) (by decide +kernel), List.mem_of_getElem? (i := 338) (by decide +kernel), List.mem_of_getElem? (i := 339) (by decide +kernel)⟩
theorem lw_p8 : lw_okq (⟨"SpendScript$Operations", "pushNumber", "(J)V"⟩, 3) := ⟨⟨by decide +kernel, by decide +kernel⟩, List.mem_of_getElem? (i := 91) (by decide +kernel), List.mem_of_getElem? (i := 362) (by decide +kernel), List.mem_of_getElem? (i := 363) (by decide +kernel)⟩
theorem lw_p9 : lw_okq (⟨"SpendScript$Operations", "fetchFromSecond", "()I"⟩, 3) := ⟨⟨by decide +kernel, by decide +kernel⟩, List.mem_of_getElem? (i := 91) (by decide +kernel), List.mem_of_getElem? (i := 377) (by decide +kernel), List.mem_of_getElem? (i := 378) (by decide +kernel)⟩
theorem lw_p10 : lw_okq (⟨"SpendScript$Operations", "pick", "(Z)I"⟩, 3) := ⟨⟨by decide +kernel, by decide +kernel⟩, List.mem_of_getElem? (i := 91) (by decide +kernel), List.mem_of_getElem? (i := 388) (by decide +kernel), List.mem_of_getElem? (i := 389) (by decide +kernel)⟩
theorem lw_p11 : lw_okq (⟨"SpendScript$Operations", "countFault", "(II)I"⟩, 3) := ⟨⟨by decide +kernel, by decide +kernel⟩, List.mem_of_getElem? (i := 91) (by decide +kernel), List.mem_of_getElem? (i := 393) (by decide +kernel), List.mem_of_getElem? (i := 394) (by decide +kernel)⟩
theorem lw_p12 : lw_okq (⟨"SpendScript$Operations", "checkSeveralSignatures", "()I"⟩, 3) := ⟨⟨by decide +kernel, by decide +kernel⟩, List.mem_of_getElem? (i := 91) (by decide +kernel), List.mem_of_getElem? (i := 410) (by decide +kernel), List.mem_of_getElem? (i := 411) (by decide +kernel)⟩
theorem lw_p13 : lw_okq (⟨"SpendScript$Operations", "allSigned", "(II)Z"⟩, 3) := ⟨⟨by decide +kernel, by decide +kernel⟩, List.mem_of_getElem? (i := 91) (by decide +kernel), List.mem_of_getElem? (i := 414) (by decide +kernel), List.mem_of_getElem? (i := 415) (by decide +kernel)⟩
theorem lw_p14 : lw_okq (⟨"SpendScript$Operations", "answer", "(IZ)V"⟩, 3) := ⟨⟨by decide +kernel, by decide +kernel⟩, List.mem_of_getElem? (i := 91) (by decide +kernel), List.mem_of_getElem? (i := 428) (by decide +kernel), List.mem_of_getElem? (i := 429) (by decide +kernel)⟩
theorem lw_p15 : lw_okq (⟨"SpendScript$Operations", "itemsFault", "(I)I"⟩, 3) := ⟨⟨by decide +kernel, by decide +kernel⟩, List.mem_of_getElem? (i := 91) (by decide +kernel), List.mem_of_getElem? (i := 432) (by decide +kernel), List.mem_of_getElem? (i := 433) (by decide +kernel)⟩
def lw_privs_1 : List (MethodName × Nat) := [(⟨"SpendScript", "scriptAt", "(I)LSpendScript$ByteString;"⟩, 10), (⟨"SpendScript$Machine", "meetPush", "(LSpendScript$ByteString;I)I"⟩, 7), (⟨"SpendScript$Machine", "formFault", "(LSpendScript$ByteString;I)I"⟩, 7), (⟨"SpendScript$Machine", "meetOperation", "(I)I"⟩, 7), (⟨"SpendScript$Machine", "openBranch", "(Z)I"⟩, 7), (⟨"SpendScript$Machine", "turnBranch", "(Z)I"⟩, 7), (⟨"SpendScript$Operations", "calculate", "(I)I"⟩, 3), (⟨"SpendScript$Operations", "numberFault", "(I)I"⟩, 3), (⟨"SpendScript$Operations", "pushNumber", "(J)V"⟩, 3), (⟨"SpendScript$Operations", "fetchFromSecond", "()I"⟩, 3), (⟨"SpendScript$Operations", "pick", "(Z)I"⟩, 3), (⟨"SpendScript$Operations", "countFault", "(II)I"⟩, 3), (⟨"SpendScript$Operations", "checkSeveralSignatures", "()I"⟩, 3), (⟨"SpendScript$Operations", "allSigned", "(II)Z"⟩, 3), (⟨"SpendScript$Operations", "answer", "(IZ)V"⟩, 3), (⟨"SpendScript$Operations", "itemsFault", "(I)I"⟩, 3)]
theorem lw_r1 : ∀ q ∈ lw_privs_1, lw_okq q := List.forall_mem_cons.mpr ⟨lw_p0, List.forall_mem_cons.mpr ⟨lw_p1, List.forall_mem_cons.mpr ⟨lw_p2, List.forall_mem_cons.mpr ⟨lw_p3, List.forall_mem_cons.mpr ⟨lw_p4, List.forall_mem_cons.mpr ⟨lw_p5, List.forall_mem_cons.mpr ⟨lw_p6, List.forall_mem_cons.mpr ⟨lw_p7, List.forall_mem_cons.mpr ⟨lw_p8, List.forall_mem_cons.mpr ⟨lw_p9, List.forall_mem_cons.mpr ⟨lw_p10, List.forall_mem_cons.mpr ⟨lw_p11, List.forall_mem_cons.mpr ⟨lw_p12, List.forall_mem_cons.mpr ⟨lw_p13, List.forall_mem_cons.mpr ⟨lw_p14, List.forall_mem_cons.mpr ⟨lw_p15, fun _ h => absurd h List.not_mem_nil⟩⟩⟩⟩⟩⟩⟩⟩⟩⟩⟩⟩⟩⟩⟩⟩
theorem lw_p16 : lw_okq (⟨"SpendScript$Operations", "isVerified", "(I)Z"⟩, 3) := ⟨⟨by decide +kernel, by decide +kernel⟩, List.mem_of_getElem? (i := 91) (by decide +kernel), List.mem_of_getElem? (i := 439) (by decide +kernel), List.mem_of_getElem? (i := 440) (by decide +kernel)⟩
theorem lw_p17 : lw_okq (⟨"SpendScript$Operations", "itemsMore", "(I)I"⟩, 3) := ⟨⟨by decide +kernel, by decide +kernel⟩, List.mem_of_getElem? (i := 91) (by decide +kernel), List.mem_of_getElem? (i := 448) (by decide +kernel), List.mem_of_getElem? (i := 449) (by decide +kernel)⟩
theorem lw_p18 : lw_okq (⟨"SpendScript$Operations", "arrange", "(I)V"⟩, 3) := ⟨⟨by decide +kernel, by decide +kernel⟩, List.mem_of_getElem? (i := 91) (by decide +kernel), List.mem_of_getElem? (i := 452) (by decide +kernel), List.mem_of_getElem? (i := 453) (by decide +kernel)⟩
theorem lw_p19 : lw_okq (⟨"SpendScript$Operations", "judge", "(I)V"⟩, 3) := ⟨⟨by decide +kernel, by decide +kernel⟩, List.mem_of_getElem? (i := 91) (by decide +kernel), List.mem_of_getElem? (i := 460) (by decide +kernel), List.mem_of_getElem? (i := 461) (by decide +kernel)⟩
theorem lw_p20 : lw_okq (⟨"SpendScript", "truthFault", "()I"⟩, 10) := ⟨⟨by decide +kernel, by decide +kernel⟩, List.mem_of_getElem? (i := 12) (by decide +kernel), List.mem_of_getElem? (i := 477) (by decide +kernel), List.mem_of_getElem? (i := 478) (by decide +kernel)⟩
theorem lw_p21 : lw_okq (⟨"SpendScript", "locksByDigest", "()Z"⟩, 10) := ⟨⟨by decide +kernel, by decide +kernel⟩, List.mem_of_getElem? (i := 12) (by decide +kernel), List.mem_of_getElem? (i := 483) (by decide +kernel), List.mem_of_getElem? (i := 484) (by decide +kernel)⟩
theorem lw_p22 : lw_okq (⟨"SpendScript", "takeScriptFromStack", "()V"⟩, 10) := ⟨⟨by decide +kernel, by decide +kernel⟩, List.mem_of_getElem? (i := 12) (by decide +kernel), List.mem_of_getElem? (i := 488) (by decide +kernel), List.mem_of_getElem? (i := 489) (by decide +kernel)⟩
theorem lw_p23 : lw_okq (⟨"SpendScriptModel", "run", "(I)I"⟩, 19) := ⟨⟨by decide +kernel, by decide +kernel⟩, List.mem_of_getElem? (i := 532) (by decide +kernel), List.mem_of_getElem? (i := 624) (by decide +kernel), List.mem_of_getElem? (i := 625) (by decide +kernel)⟩
theorem lw_p24 : lw_okq (⟨"SpendScriptModel", "push", "(II)I"⟩, 19) := ⟨⟨by decide +kernel, by decide +kernel⟩, List.mem_of_getElem? (i := 532) (by decide +kernel), List.mem_of_getElem? (i := 628) (by decide +kernel), List.mem_of_getElem? (i := 629) (by decide +kernel)⟩
theorem lw_p25 : lw_okq (⟨"SpendScriptModel", "live", "()Z"⟩, 19) := ⟨⟨by decide +kernel, by decide +kernel⟩, List.mem_of_getElem? (i := 532) (by decide +kernel), List.mem_of_getElem? (i := 632) (by decide +kernel), List.mem_of_getElem? (i := 633) (by decide +kernel)⟩
theorem lw_p26 : lw_okq (⟨"SpendScriptModel", "full", "(I)Z"⟩, 19) := ⟨⟨by decide +kernel, by decide +kernel⟩, List.mem_of_getElem? (i := 532) (by decide +kernel), List.mem_of_getElem? (i := 636) (by decide +kernel), List.mem_of_getElem? (i := 637) (by decide +kernel)⟩
theorem lw_p27 : lw_okq (⟨"SpendScriptModel", "pushNumber", "(J)V"⟩, 19) := ⟨⟨by decide +kernel, by decide +kernel⟩, List.mem_of_getElem? (i := 532) (by decide +kernel), List.mem_of_getElem? (i := 640) (by decide +kernel), List.mem_of_getElem? (i := 641) (by decide +kernel)⟩
theorem lw_p28 : lw_okq (⟨"SpendScriptModel", "operate", "(II)I"⟩, 19) := ⟨⟨by decide +kernel, by decide +kernel⟩, List.mem_of_getElem? (i := 532) (by decide +kernel), List.mem_of_getElem? (i := 645) (by decide +kernel), List.mem_of_getElem? (i := 646) (by decide +kernel)⟩
theorem lw_p29 : lw_okq (⟨"SpendScriptModel", "branch", "(IZ)I"⟩, 19) := ⟨⟨by decide +kernel, by decide +kernel⟩, List.mem_of_getElem? (i := 532) (by decide +kernel), List.mem_of_getElem? (i := 652) (by decide +kernel), List.mem_of_getElem? (i := 653) (by decide +kernel)⟩
theorem lw_p30 : lw_okq (⟨"SpendScriptModel", "isTrue", "(I)Z"⟩, 19) := ⟨⟨by decide +kernel, by decide +kernel⟩, List.mem_of_getElem? (i := 532) (by decide +kernel), List.mem_of_getElem? (i := 656) (by decide +kernel), List.mem_of_getElem? (i := 657) (by decide +kernel)⟩
theorem lw_p31 : lw_okq (⟨"SpendScriptModel", "size", "(I)I"⟩, 19) := ⟨⟨by decide +kernel, by decide +kernel⟩, List.mem_of_getElem? (i := 532) (by decide +kernel), List.mem_of_getElem? (i := 660) (by decide +kernel), List.mem_of_getElem? (i := 661) (by decide +kernel)⟩
def lw_privs_2 : List (MethodName × Nat) := [(⟨"SpendScript$Operations", "isVerified", "(I)Z"⟩, 3), (⟨"SpendScript$Operations", "itemsMore", "(I)I"⟩, 3), (⟨"SpendScript$Operations", "arrange", "(I)V"⟩, 3), (⟨"SpendScript$Operations", "judge", "(I)V"⟩, 3), (⟨"SpendScript", "truthFault", "()I"⟩, 10), (⟨"SpendScript", "locksByDigest", "()Z"⟩, 10), (⟨"SpendScript", "takeScriptFromStack", "()V"⟩, 10), (⟨"SpendScriptModel", "run", "(I)I"⟩, 19), (⟨"SpendScriptModel", "push", "(II)I"⟩, 19), (⟨"SpendScriptModel", "live", "()Z"⟩, 19), (⟨"SpendScriptModel", "full", "(I)Z"⟩, 19), (⟨"SpendScriptModel", "pushNumber", "(J)V"⟩, 19), (⟨"SpendScriptModel", "operate", "(II)I"⟩, 19), (⟨"SpendScriptModel", "branch", "(IZ)I"⟩, 19), (⟨"SpendScriptModel", "isTrue", "(I)Z"⟩, 19), (⟨"SpendScriptModel", "size", "(I)I"⟩, 19)]
theorem lw_r2 : ∀ q ∈ lw_privs_2, lw_okq q := List.forall_mem_cons.mpr ⟨lw_p16, List.forall_mem_cons.mpr ⟨lw_p17, List.forall_mem_cons.mpr ⟨lw_p18, List.forall_mem_cons.mpr ⟨lw_p19, List.forall_mem_cons.mpr ⟨lw_p20, List.forall_mem_cons.mpr ⟨lw_p21, List.forall_mem_cons.mpr ⟨lw_p22, List.forall_mem_cons.mpr ⟨lw_p23, List.forall_mem_cons.mpr ⟨lw_p24, List.forall_mem_cons.mpr ⟨lw_p25, List.forall_mem_cons.mpr ⟨lw_p26, List.forall_mem_cons.mpr ⟨lw_p27, List.forall_mem_cons.mpr ⟨lw_p28, List.forall_mem_cons.mpr ⟨lw_p29, List.forall_mem_cons.mpr ⟨lw_p30, List.forall_mem_cons.mpr ⟨lw_p31, fun _ h => absurd h List.not_mem_nil⟩⟩⟩⟩⟩⟩⟩⟩⟩⟩⟩⟩⟩⟩⟩⟩
theorem lw_p32 : lw_okq (⟨"SpendScriptModel", "row", "(I)I"⟩, 19) := ⟨⟨by decide +kernel, by decide +kernel⟩, List.mem_of_getElem? (i := 532) (by decide +kernel), List.mem_of_getElem? (i := 664) (by decide +kernel), List.mem_of_getElem? (i := 665) (by decide +kernel)⟩
theorem lw_p33 : lw_okq (⟨"SpendScriptModel", "at", "(II)I"⟩, 19) := ⟨⟨by decide +kernel, by decide +kernel⟩, List.mem_of_getElem? (i := 532) (by decide +kernel), List.mem_of_getElem? (i := 668) (by decide +kernel), List.mem_of_getElem? (i := 669) (by decide +kernel)⟩
theorem lw_p34 : lw_okq (⟨"SpendScriptModel", "pop", "(I)V"⟩, 19) := ⟨⟨by decide +kernel, by decide +kernel⟩, List.mem_of_getElem? (i := 532) (by decide +kernel), List.mem_of_getElem? (i := 672) (by decide +kernel), List.mem_of_getElem? (i := 673) (by decide +kernel)⟩
theorem lw_p35 : lw_okq (⟨"SpendScriptModel", "calculate", "(I)I"⟩, 19) := ⟨⟨by decide +kernel, by decide +kernel⟩, List.mem_of_getElem? (i := 532) (by decide +kernel), List.mem_of_getElem? (i := 676) (by decide +kernel), List.mem_of_getElem? (i := 677) (by decide +kernel)⟩
theorem lw_p36 : lw_okq (⟨"SpendScriptModel", "take", "(I)I"⟩, 19) := ⟨⟨by decide +kernel, by decide +kernel⟩, List.mem_of_getElem? (i := 532) (by decide +kernel), List.mem_of_getElem? (i := 680) (by decide +kernel), List.mem_of_getElem? (i := 681) (by decide +kernel)⟩
theorem lw_p37 : lw_okq (⟨"SpendScriptModel", "valueInto", "(II)I"⟩, 19) := ⟨⟨by decide +kernel, by decide +kernel⟩, List.mem_of_getElem? (i := 532) (by decide +kernel), List.mem_of_getElem? (i := 684) (by decide +kernel), List.mem_of_getElem? (i := 685) (by decide +kernel)⟩
theorem lw_p38 : lw_okq (⟨"SpendScriptModel", "compare", "(I)I"⟩, 19) := ⟨⟨by decide +kernel, by decide +kernel⟩, List.mem_of_getElem? (i := 532) (by decide +kernel), List.mem_of_getElem? (i := 692) (by decide +kernel), List.mem_of_getElem? (i := 693) (by decide +kernel)⟩
theorem lw_p39 : lw_okq (⟨"SpendScriptModel", "many", "()I"⟩, 19) := ⟨⟨by decide +kernel, by decide +kernel⟩, List.mem_of_getElem? (i := 532) (by decide +kernel), List.mem_of_getElem? (i := 696) (by decide +kernel), List.mem_of_getElem? (i := 697) (by decide +kernel)⟩
theorem lw_p40 : lw_okq (⟨"SpendScriptModel", "valid", "(II)Z"⟩, 19) := ⟨⟨by decide +kernel, by decide +kernel⟩, List.mem_of_getElem? (i := 532) (by decide +kernel), List.mem_of_getElem? (i := 701) (by decide +kernel), List.mem_of_getElem? (i := 702) (by decide +kernel)⟩
theorem lw_p41 : lw_okq (⟨"SpendScriptModel", "wellFormed", "(I)Z"⟩, 19) := ⟨⟨by decide +kernel, by decide +kernel⟩, List.mem_of_getElem? (i := 532) (by decide +kernel), List.mem_of_getElem? (i := 705) (by decide +kernel), List.mem_of_getElem? (i := 706) (by decide +kernel)⟩
theorem lw_p42 : lw_okq (⟨"SpendScriptModel", "hash", "(I)I"⟩, 19) := ⟨⟨by decide +kernel, by decide +kernel⟩, List.mem_of_getElem? (i := 532) (by decide +kernel), List.mem_of_getElem? (i := 709) (by decide +kernel), List.mem_of_getElem? (i := 710) (by decide +kernel)⟩
theorem lw_p43 : lw_okq (⟨"SpendScriptModel", "same", "(II)Z"⟩, 19) := ⟨⟨by decide +kernel, by decide +kernel⟩, List.mem_of_getElem? (i := 532) (by decide +kernel), List.mem_of_getElem? (i := 713) (by decide +kernel), List.mem_of_getElem? (i := 714) (by decide +kernel)⟩
theorem lw_p44 : lw_okq (⟨"SpendScriptModel", "move", "(I)I"⟩, 19) := ⟨⟨by decide +kernel, by decide +kernel⟩, List.mem_of_getElem? (i := 532) (by decide +kernel), List.mem_of_getElem? (i := 717) (by decide +kernel), List.mem_of_getElem? (i := 718) (by decide +kernel)⟩
theorem lw_p45 : lw_okq (⟨"SpendScriptModel", "pick", "(I)I"⟩, 19) := ⟨⟨by decide +kernel, by decide +kernel⟩, List.mem_of_getElem? (i := 532) (by decide +kernel), List.mem_of_getElem? (i := 724) (by decide +kernel), List.mem_of_getElem? (i := 725) (by decide +kernel)⟩
theorem lw_p46 : lw_okq (⟨"SpendScriptModel", "again", "(I)V"⟩, 19) := ⟨⟨by decide +kernel, by decide +kernel⟩, List.mem_of_getElem? (i := 532) (by decide +kernel), List.mem_of_getElem? (i := 728) (by decide +kernel), List.mem_of_getElem? (i := 729) (by decide +kernel)⟩
theorem lw_p47 : lw_okq (⟨"SpendScriptModel", "remove", "(I)V"⟩, 19) := ⟨⟨by decide +kernel, by decide +kernel⟩, List.mem_of_getElem? (i := 532) (by decide +kernel), List.mem_of_getElem? (i := 735) (by decide +kernel), List.mem_of_getElem? (i := 736) (by decide +kernel)⟩
def lw_privs_3 : List (MethodName × Nat) := [(⟨"SpendScriptModel", "row", "(I)I"⟩, 19), (⟨"SpendScriptModel", "at", "(II)I"⟩, 19), (⟨"SpendScriptModel", "pop", "(I)V"⟩, 19), (⟨"SpendScriptModel", "calculate", "(I)I"⟩, 19), (⟨"SpendScriptModel", "take", "(I)I"⟩, 19), (⟨"SpendScriptModel", "valueInto", "(II)I"⟩, 19), (⟨"SpendScriptModel", "compare", "(I)I"⟩, 19), (⟨"SpendScriptModel", "many", "()I"⟩, 19), (⟨"SpendScriptModel", "valid", "(II)Z"⟩, 19), (⟨"SpendScriptModel", "wellFormed", "(I)Z"⟩, 19), (⟨"SpendScriptModel", "hash", "(I)I"⟩, 19), (⟨"SpendScriptModel", "same", "(II)Z"⟩, 19), (⟨"SpendScriptModel", "move", "(I)I"⟩, 19), (⟨"SpendScriptModel", "pick", "(I)I"⟩, 19), (⟨"SpendScriptModel", "again", "(I)V"⟩, 19), (⟨"SpendScriptModel", "remove", "(I)V"⟩, 19)]
theorem lw_r3 : ∀ q ∈ lw_privs_3, lw_okq q := List.forall_mem_cons.mpr ⟨lw_p32, List.forall_mem_cons.mpr ⟨lw_p33, List.forall_mem_cons.mpr ⟨lw_p34, List.forall_mem_cons.mpr ⟨lw_p35, List.forall_mem_cons.mpr ⟨lw_p36, List.forall_mem_cons.mpr ⟨lw_p37, List.forall_mem_cons.mpr ⟨lw_p38, List.forall_mem_cons.mpr ⟨lw_p39, List.forall_mem_cons.mpr ⟨lw_p40, List.forall_mem_cons.mpr ⟨lw_p41, List.forall_mem_cons.mpr ⟨lw_p42, List.forall_mem_cons.mpr ⟨lw_p43, List.forall_mem_cons.mpr ⟨lw_p44, List.forall_mem_cons.mpr ⟨lw_p45, List.forall_mem_cons.mpr ⟨lw_p46, List.forall_mem_cons.mpr ⟨lw_p47, fun _ h => absurd h List.not_mem_nil⟩⟩⟩⟩⟩⟩⟩⟩⟩⟩⟩⟩⟩⟩⟩⟩
theorem lw_p48 : lw_okq (⟨"SpendScriptModel", "isForm", "()Z"⟩, 19) := ⟨⟨by decide +kernel, by decide +kernel⟩, List.mem_of_getElem? (i := 532) (by decide +kernel), List.mem_of_getElem? (i := 742) (by decide +kernel), List.mem_of_getElem? (i := 743) (by decide +kernel)⟩
def lw_privs_4 : List (MethodName × Nat) := [(⟨"SpendScriptModel", "isForm", "()Z"⟩, 19)]
theorem lw_r4 : ∀ q ∈ lw_privs_4, lw_okq q := List.forall_mem_cons.mpr ⟨lw_p48, fun _ h => absurd h List.not_mem_nil⟩
def lw_privs : List (MethodName × Nat) := lw_privs_1 ++ (lw_privs_2 ++ (lw_privs_3 ++ (lw_privs_4)))
def lw_tbl : List Cond := k2_sels lw_privs ++ tables_1
theorem lw_privs_ok : ∀ q ∈ lw_privs, lw_okq q := by
  show ∀ q ∈ lw_privs_1 ++ (lw_privs_2 ++ (lw_privs_3 ++ (lw_privs_4))), lw_okq q
  exact List.forall_mem_append.mpr ⟨lw_r1, List.forall_mem_append.mpr ⟨lw_r2, List.forall_mem_append.mpr ⟨lw_r3, lw_r4⟩⟩⟩
end
section
/-! Names, classes, words: printed by wip/whole/gen_names.py -/
abbrev R_BS : String := "SpendScript$ByteString"
def F_BS : u_T := fun k => match k with
  | 0 => ("SpendScript$ByteString", "bytes", "[I", true)
  | _ => ("SpendScript$ByteString", "size", "I", false)
def t_BS : Nat → FieldType := fun k => match k with
  | 0 => .array .int
  | _ => .int
theorem nk_BS : ∀ a, a < 2 → ∀ b, b < 2 → a ≠ b → (F_BS a).2.1 ≠ (F_BS b).2.1 := by decide +kernel
theorem tk_BS : ∀ k, k < 2 → parseFieldDescriptor (F_BS k).2.2.1 = some (t_BS k) := by decide +kernel
abbrev R_IS : String := "SpendScript$ItemStack"
def F_IS : u_T := fun k => match k with
  | 0 => ("SpendScript$ItemStack", "rows", "[LSpendScript$ByteString;", true)
  | 1 => ("SpendScript$ItemStack", "nothing", "LSpendScript$ByteString;", true)
  | _ => ("SpendScript$ItemStack", "size", "I", false)
def t_IS : Nat → FieldType := fun k => match k with
  | 0 => .array (.object "SpendScript$ByteString")
  | 1 => .object "SpendScript$ByteString"
  | _ => .int
theorem nk_IS : ∀ a, a < 3 → ∀ b, b < 3 → a ≠ b → (F_IS a).2.1 ≠ (F_IS b).2.1 := by decide +kernel
theorem tk_IS : ∀ k, k < 3 → parseFieldDescriptor (F_IS k).2.2.1 = some (t_IS k) := by decide +kernel
abbrev R_ST : String := "SpendScript$SignatureTable"
def F_ST : u_T := fun k => match k with
  | 0 => ("SpendScript$SignatureTable", "signatures", "[I", true)
  | 1 => ("SpendScript$SignatureTable", "keys", "[I", true)
  | _ => ("SpendScript$SignatureTable", "count", "I", false)
def t_ST : Nat → FieldType := fun k => match k with
  | 0 => .array .int
  | 1 => .array .int
  | _ => .int
theorem nk_ST : ∀ a, a < 3 → ∀ b, b < 3 → a ≠ b → (F_ST a).2.1 ≠ (F_ST b).2.1 := by decide +kernel
theorem tk_ST : ∀ k, k < 3 → parseFieldDescriptor (F_ST k).2.2.1 = some (t_ST k) := by decide +kernel
abbrev R_BR : String := "SpendScript$Branches"
def F_BR : u_T := fun k => match k with
  | 0 => ("SpendScript$Branches", "active", "[Z", true)
  | _ => ("SpendScript$Branches", "open", "I", false)
def t_BR : Nat → FieldType := fun k => match k with
  | 0 => .array .boolean
  | _ => .int
theorem nk_BR : ∀ a, a < 2 → ∀ b, b < 2 → a ≠ b → (F_BR a).2.1 ≠ (F_BR b).2.1 := by decide +kernel
theorem tk_BR : ∀ k, k < 2 → parseFieldDescriptor (F_BR k).2.2.1 = some (t_BR k) := by decide +kernel
abbrev R_MC : String := "SpendScript$Machine"
def F_MC : u_T := fun k => match k with
  | 0 => ("SpendScript$Machine", "stack", "LSpendScript$ItemStack;", true)
  | 1 => ("SpendScript$Machine", "second", "LSpendScript$ItemStack;", true)
  | 2 => ("SpendScript$Machine", "branches", "LSpendScript$Branches;", true)
  | 3 => ("SpendScript$Machine", "operations", "LSpendScript$Operations;", true)
  | 4 => ("SpendScript$Machine", "met", "I", false)
  | 5 => ("SpendScript$Machine", "place", "I", false)
  | _ => ("SpendScript$Machine", "doneCount", "I", false)
def t_MC : Nat → FieldType := fun k => match k with
  | 0 => .object "SpendScript$ItemStack"
  | 1 => .object "SpendScript$ItemStack"
  | 2 => .object "SpendScript$Branches"
  | 3 => .object "SpendScript$Operations"
  | 4 => .int
  | 5 => .int
  | _ => .int
theorem nk_MC : ∀ a, a < 7 → ∀ b, b < 7 → a ≠ b → (F_MC a).2.1 ≠ (F_MC b).2.1 := by decide +kernel
theorem tk_MC : ∀ k, k < 7 → parseFieldDescriptor (F_MC k).2.2.1 = some (t_MC k) := by decide +kernel
abbrev R_OP : String := "SpendScript$Operations"
def F_OP : u_T := fun k => match k with
  | 0 => ("SpendScript$Operations", "stack", "LSpendScript$ItemStack;", true)
  | 1 => ("SpendScript$Operations", "second", "LSpendScript$ItemStack;", true)
  | _ => ("SpendScript$Operations", "table", "LSpendScript$SignatureTable;", true)
def t_OP : Nat → FieldType := fun k => match k with
  | 0 => .object "SpendScript$ItemStack"
  | 1 => .object "SpendScript$ItemStack"
  | _ => .object "SpendScript$SignatureTable"
theorem nk_OP : ∀ a, a < 3 → ∀ b, b < 3 → a ≠ b → (F_OP a).2.1 ≠ (F_OP b).2.1 := by decide +kernel
theorem tk_OP : ∀ k, k < 3 → parseFieldDescriptor (F_OP k).2.2.1 = some (t_OP k) := by decide +kernel
abbrev R_SS : String := "SpendScript"
def F_SS : u_T := fun k => match k with
  | 0 => ("SpendScript", "unlocking", "LSpendScript$ByteString;", true)
  | 1 => ("SpendScript", "locking", "LSpendScript$ByteString;", true)
  | 2 => ("SpendScript", "fromStack", "LSpendScript$ByteString;", true)
  | 3 => ("SpendScript", "table", "LSpendScript$SignatureTable;", true)
  | 4 => ("SpendScript", "stack", "LSpendScript$ItemStack;", true)
  | 5 => ("SpendScript", "leftByUnlocking", "LSpendScript$ItemStack;", true)
  | 6 => ("SpendScript", "machine", "LSpendScript$Machine;", true)
  | 7 => ("SpendScript", "latestFault", "I", false)
  | 8 => ("SpendScript", "latestScript", "I", false)
  | _ => ("SpendScript", "latestPlace", "I", false)
def t_SS : Nat → FieldType := fun k => match k with
  | 0 => .object "SpendScript$ByteString"
  | 1 => .object "SpendScript$ByteString"
  | 2 => .object "SpendScript$ByteString"
  | 3 => .object "SpendScript$SignatureTable"
  | 4 => .object "SpendScript$ItemStack"
  | 5 => .object "SpendScript$ItemStack"
  | 6 => .object "SpendScript$Machine"
  | 7 => .int
  | 8 => .int
  | _ => .int
theorem nk_SS : ∀ a, a < 10 → ∀ b, b < 10 → a ≠ b → (F_SS a).2.1 ≠ (F_SS b).2.1 := by decide +kernel
theorem tk_SS : ∀ k, k < 10 → parseFieldDescriptor (F_SS k).2.2.1 = some (t_SS k) := by decide +kernel
abbrev R_MD : String := "SpendScriptModel"
def F_MD : u_T := fun k => match k with
  | 0 => ("SpendScriptModel", "scripts", "[I", true)
  | 1 => ("SpendScriptModel", "sizes", "[I", true)
  | 2 => ("SpendScriptModel", "stack", "[I", true)
  | 3 => ("SpendScriptModel", "second", "[I", true)
  | 4 => ("SpendScriptModel", "kept", "[I", true)
  | 5 => ("SpendScriptModel", "n", "I", false)
  | 6 => ("SpendScriptModel", "s", "I", false)
  | 7 => ("SpendScriptModel", "active", "[Z", true)
  | 8 => ("SpendScriptModel", "open", "I", false)
  | 9 => ("SpendScriptModel", "met", "I", false)
  | 10 => ("SpendScriptModel", "next", "I", false)
  | 11 => ("SpendScriptModel", "tableSignature", "[I", true)
  | 12 => ("SpendScriptModel", "tableKey", "[I", true)
  | 13 => ("SpendScriptModel", "pairs", "I", false)
  | 14 => ("SpendScriptModel", "result", "I", false)
  | 15 => ("SpendScriptModel", "ended", "I", false)
  | 16 => ("SpendScriptModel", "place", "I", false)
  | 17 => ("SpendScriptModel", "done", "I", false)
  | _ => ("SpendScriptModel", "number", "[J", true)
def t_MD : Nat → FieldType := fun k => match k with
  | 0 => .array .int
  | 1 => .array .int
  | 2 => .array .int
  | 3 => .array .int
  | 4 => .array .int
  | 5 => .int
  | 6 => .int
  | 7 => .array .boolean
  | 8 => .int
  | 9 => .int
  | 10 => .int
  | 11 => .array .int
  | 12 => .array .int
  | 13 => .int
  | 14 => .int
  | 15 => .int
  | 16 => .int
  | 17 => .int
  | _ => .array .long
theorem nk_MD : ∀ a, a < 19 → ∀ b, b < 19 → a ≠ b → (F_MD a).2.1 ≠ (F_MD b).2.1 := by decide +kernel
theorem tk_MD : ∀ k, k < 19 → parseFieldDescriptor (F_MD k).2.2.1 = some (t_MD k) := by decide +kernel
abbrev b_SS_init : ByteArray := prog_1_method_1_code
def y_SS_init : MethodName := ⟨"SpendScript", "<init>", "()V"⟩
abbrev b_SS_feed : ByteArray := prog_1_method_2_code
def y_SS_feed : MethodName := ⟨"SpendScript", "feed", "(II)Z"⟩
abbrev b_SS_length : ByteArray := prog_1_method_3_code
def y_SS_length : MethodName := ⟨"SpendScript", "length", "(I)I"⟩
abbrev b_SS_clear : ByteArray := prog_1_method_4_code
def y_SS_clear : MethodName := ⟨"SpendScript", "clear", "(I)Z"⟩
abbrev b_SS_confirm : ByteArray := prog_1_method_5_code
def y_SS_confirm : MethodName := ⟨"SpendScript", "confirm", "(II)Z"⟩
abbrev b_SS_digest : ByteArray := prog_1_method_6_code
def y_SS_digest : MethodName := ⟨"SpendScript", "digest", "(III)I"⟩
abbrev b_SS_spend : ByteArray := prog_1_method_7_code
def y_SS_spend : MethodName := ⟨"SpendScript", "spend", "()I"⟩
abbrev b_SS_result : ByteArray := prog_1_method_8_code
def y_SS_result : MethodName := ⟨"SpendScript", "result", "()I"⟩
abbrev b_SS_ended : ByteArray := prog_1_method_9_code
def y_SS_ended : MethodName := ⟨"SpendScript", "ended", "()I"⟩
abbrev b_SS_faultAt : ByteArray := prog_1_method_10_code
def y_SS_faultAt : MethodName := ⟨"SpendScript", "faultAt", "()I"⟩
abbrev b_SS_done : ByteArray := prog_1_method_11_code
def y_SS_done : MethodName := ⟨"SpendScript", "done", "()I"⟩
abbrev b_SS_items : ByteArray := prog_1_method_12_code
def y_SS_items : MethodName := ⟨"SpendScript", "items", "()I"⟩
abbrev b_SS_itemLength : ByteArray := prog_1_method_13_code
def y_SS_itemLength : MethodName := ⟨"SpendScript", "itemLength", "(I)I"⟩
abbrev b_SS_itemByte : ByteArray := prog_1_method_14_code
def y_SS_itemByte : MethodName := ⟨"SpendScript", "itemByte", "(II)I"⟩
abbrev b_SS_isFed : ByteArray := prog_1_method_15_code
def y_SS_isFed : MethodName := ⟨"SpendScript", "isFed", "(I)Z"⟩
abbrev b_SS_scriptAt : ByteArray := prog_1_method_16_code
def y_SS_scriptAt : MethodName := ⟨"SpendScript", "scriptAt", "(I)LSpendScript$ByteString;"⟩
abbrev b_SS_truthFault : ByteArray := prog_1_method_17_code
def y_SS_truthFault : MethodName := ⟨"SpendScript", "truthFault", "()I"⟩
abbrev b_SS_takeScriptFromStack : ByteArray := prog_1_method_18_code
def y_SS_takeScriptFromStack : MethodName := ⟨"SpendScript", "takeScriptFromStack", "()V"⟩
abbrev b_SS_locksByDigest : ByteArray := prog_1_method_19_code
def y_SS_locksByDigest : MethodName := ⟨"SpendScript", "locksByDigest", "()Z"⟩
abbrev b_MD_init : ByteArray := prog_10_method_1_code
def y_MD_init : MethodName := ⟨"SpendScriptModel", "<init>", "()V"⟩
abbrev b_MD_isScript : ByteArray := prog_10_method_2_code
def y_MD_isScript : MethodName := ⟨"SpendScriptModel", "isScript", "(I)Z"⟩
abbrev b_MD_feed : ByteArray := prog_10_method_3_code
def y_MD_feed : MethodName := ⟨"SpendScriptModel", "feed", "(II)Z"⟩
abbrev b_MD_length : ByteArray := prog_10_method_4_code
def y_MD_length : MethodName := ⟨"SpendScriptModel", "length", "(I)I"⟩
abbrev b_MD_clear : ByteArray := prog_10_method_5_code
def y_MD_clear : MethodName := ⟨"SpendScriptModel", "clear", "(I)Z"⟩
abbrev b_MD_confirm : ByteArray := prog_10_method_6_code
def y_MD_confirm : MethodName := ⟨"SpendScriptModel", "confirm", "(II)Z"⟩
abbrev b_MD_digest : ByteArray := prog_10_method_7_code
def y_MD_digest : MethodName := ⟨"SpendScriptModel", "digest", "(III)I"⟩
abbrev b_MD_row : ByteArray := prog_10_method_8_code
def y_MD_row : MethodName := ⟨"SpendScriptModel", "row", "(I)I"⟩
abbrev b_MD_size : ByteArray := prog_10_method_9_code
def y_MD_size : MethodName := ⟨"SpendScriptModel", "size", "(I)I"⟩
abbrev b_MD_at : ByteArray := prog_10_method_10_code
def y_MD_at : MethodName := ⟨"SpendScriptModel", "at", "(II)I"⟩
abbrev b_MD_isTrue : ByteArray := prog_10_method_11_code
def y_MD_isTrue : MethodName := ⟨"SpendScriptModel", "isTrue", "(I)Z"⟩
abbrev b_MD_same : ByteArray := prog_10_method_12_code
def y_MD_same : MethodName := ⟨"SpendScriptModel", "same", "(II)Z"⟩
abbrev b_MD_hash : ByteArray := prog_10_method_13_code
def y_MD_hash : MethodName := ⟨"SpendScriptModel", "hash", "(I)I"⟩
abbrev b_MD_copy : ByteArray := prog_10_method_14_code
def y_MD_copy : MethodName := ⟨"SpendScriptModel", "copy", "([II[II)V"⟩
abbrev b_MD_again : ByteArray := prog_10_method_15_code
def y_MD_again : MethodName := ⟨"SpendScriptModel", "again", "(I)V"⟩
abbrev b_MD_remove : ByteArray := prog_10_method_16_code
def y_MD_remove : MethodName := ⟨"SpendScriptModel", "remove", "(I)V"⟩
abbrev b_MD_pop : ByteArray := prog_10_method_17_code
def y_MD_pop : MethodName := ⟨"SpendScriptModel", "pop", "(I)V"⟩
abbrev b_MD_pushNumber : ByteArray := prog_10_method_18_code
def y_MD_pushNumber : MethodName := ⟨"SpendScriptModel", "pushNumber", "(J)V"⟩
abbrev b_MD_full : ByteArray := prog_10_method_19_code
def y_MD_full : MethodName := ⟨"SpendScriptModel", "full", "(I)Z"⟩
abbrev b_MD_take : ByteArray := prog_10_method_20_code
def y_MD_take : MethodName := ⟨"SpendScriptModel", "take", "(I)I"⟩
abbrev b_MD_valueInto : ByteArray := prog_10_method_21_code
def y_MD_valueInto : MethodName := ⟨"SpendScriptModel", "valueInto", "(II)I"⟩
abbrev b_MD_wellFormed : ByteArray := prog_10_method_22_code
def y_MD_wellFormed : MethodName := ⟨"SpendScriptModel", "wellFormed", "(I)Z"⟩
abbrev b_MD_valid : ByteArray := prog_10_method_23_code
def y_MD_valid : MethodName := ⟨"SpendScriptModel", "valid", "(II)Z"⟩
abbrev b_MD_live : ByteArray := prog_10_method_24_code
def y_MD_live : MethodName := ⟨"SpendScriptModel", "live", "()Z"⟩
abbrev b_MD_run : ByteArray := prog_10_method_25_code
def y_MD_run : MethodName := ⟨"SpendScriptModel", "run", "(I)I"⟩
abbrev b_MD_push : ByteArray := prog_10_method_26_code
def y_MD_push : MethodName := ⟨"SpendScriptModel", "push", "(II)I"⟩
abbrev b_MD_known : ByteArray := prog_10_method_27_code
def y_MD_known : MethodName := ⟨"SpendScriptModel", "known", "(I)Z"⟩
abbrev b_MD_operate : ByteArray := prog_10_method_28_code
def y_MD_operate : MethodName := ⟨"SpendScriptModel", "operate", "(II)I"⟩
abbrev b_MD_branch : ByteArray := prog_10_method_29_code
def y_MD_branch : MethodName := ⟨"SpendScriptModel", "branch", "(IZ)I"⟩
abbrev b_MD_needs : ByteArray := prog_10_method_30_code
def y_MD_needs : MethodName := ⟨"SpendScriptModel", "needs", "(I)I"⟩
abbrev b_MD_grows : ByteArray := prog_10_method_31_code
def y_MD_grows : MethodName := ⟨"SpendScriptModel", "grows", "(I)I"⟩
abbrev b_MD_move : ByteArray := prog_10_method_32_code
def y_MD_move : MethodName := ⟨"SpendScriptModel", "move", "(I)I"⟩
abbrev b_MD_pick : ByteArray := prog_10_method_33_code
def y_MD_pick : MethodName := ⟨"SpendScriptModel", "pick", "(I)I"⟩
abbrev b_MD_compare : ByteArray := prog_10_method_34_code
def y_MD_compare : MethodName := ⟨"SpendScriptModel", "compare", "(I)I"⟩
abbrev b_MD_many : ByteArray := prog_10_method_35_code
def y_MD_many : MethodName := ⟨"SpendScriptModel", "many", "()I"⟩
abbrev b_MD_calculate : ByteArray := prog_10_method_36_code
def y_MD_calculate : MethodName := ⟨"SpendScriptModel", "calculate", "(I)I"⟩
abbrev b_MD_value : ByteArray := prog_10_method_37_code
def y_MD_value : MethodName := ⟨"SpendScriptModel", "value", "(IJJJ)J"⟩
abbrev b_MD_isForm : ByteArray := prog_10_method_38_code
def y_MD_isForm : MethodName := ⟨"SpendScriptModel", "isForm", "()Z"⟩
abbrev b_MD_spend : ByteArray := prog_10_method_39_code
def y_MD_spend : MethodName := ⟨"SpendScriptModel", "spend", "()I"⟩
abbrev b_MD_result : ByteArray := prog_10_method_40_code
def y_MD_result : MethodName := ⟨"SpendScriptModel", "result", "()I"⟩
abbrev b_MD_ended : ByteArray := prog_10_method_41_code
def y_MD_ended : MethodName := ⟨"SpendScriptModel", "ended", "()I"⟩
abbrev b_MD_faultAt : ByteArray := prog_10_method_42_code
def y_MD_faultAt : MethodName := ⟨"SpendScriptModel", "faultAt", "()I"⟩
abbrev b_MD_done : ByteArray := prog_10_method_43_code
def y_MD_done : MethodName := ⟨"SpendScriptModel", "done", "()I"⟩
abbrev b_MD_items : ByteArray := prog_10_method_44_code
def y_MD_items : MethodName := ⟨"SpendScriptModel", "items", "()I"⟩
abbrev b_MD_itemLength : ByteArray := prog_10_method_45_code
def y_MD_itemLength : MethodName := ⟨"SpendScriptModel", "itemLength", "(I)I"⟩
abbrev b_MD_itemByte : ByteArray := prog_10_method_46_code
def y_MD_itemByte : MethodName := ⟨"SpendScriptModel", "itemByte", "(II)I"⟩
abbrev b_BR_init : ByteArray := prog_2_method_1_code
def y_BR_init : MethodName := ⟨"SpendScript$Branches", "<init>", "()V"⟩
abbrev b_BR_closeAll : ByteArray := prog_2_method_2_code
def y_BR_closeAll : MethodName := ⟨"SpendScript$Branches", "closeAll", "()V"⟩
abbrev b_BR_anyOpen : ByteArray := prog_2_method_3_code
def y_BR_anyOpen : MethodName := ⟨"SpendScript$Branches", "anyOpen", "()Z"⟩
abbrev b_BR_mayOpen : ByteArray := prog_2_method_4_code
def y_BR_mayOpen : MethodName := ⟨"SpendScript$Branches", "mayOpen", "()Z"⟩
abbrev b_BR_allActive : ByteArray := prog_2_method_5_code
def y_BR_allActive : MethodName := ⟨"SpendScript$Branches", "allActive", "()Z"⟩
abbrev b_BR_openOne : ByteArray := prog_2_method_6_code
def y_BR_openOne : MethodName := ⟨"SpendScript$Branches", "openOne", "(Z)V"⟩
abbrev b_BR_flipLast : ByteArray := prog_2_method_7_code
def y_BR_flipLast : MethodName := ⟨"SpendScript$Branches", "flipLast", "()V"⟩
abbrev b_BR_closeLast : ByteArray := prog_2_method_8_code
def y_BR_closeLast : MethodName := ⟨"SpendScript$Branches", "closeLast", "()V"⟩
abbrev b_BS_init : ByteArray := prog_3_method_1_code
def y_BS_init : MethodName := ⟨"SpendScript$ByteString", "<init>", "(I)V"⟩
abbrev b_BS_size : ByteArray := prog_3_method_2_code
def y_BS_size : MethodName := ⟨"SpendScript$ByteString", "size", "()I"⟩
abbrev b_BS_byteAt : ByteArray := prog_3_method_3_code
def y_BS_byteAt : MethodName := ⟨"SpendScript$ByteString", "byteAt", "(I)I"⟩
abbrev b_BS_makeEmpty : ByteArray := prog_3_method_4_code
def y_BS_makeEmpty : MethodName := ⟨"SpendScript$ByteString", "makeEmpty", "()V"⟩
abbrev b_BS_append : ByteArray := prog_3_method_5_code
def y_BS_append : MethodName := ⟨"SpendScript$ByteString", "append", "(I)Z"⟩
abbrev b_BS_hasPart : ByteArray := prog_3_method_6_code
def y_BS_hasPart : MethodName := ⟨"SpendScript$ByteString", "hasPart", "(II)Z"⟩
abbrev b_BS_becomeCopyOf : ByteArray := prog_3_method_7_code
def y_BS_becomeCopyOf : MethodName := ⟨"SpendScript$ByteString", "becomeCopyOf", "(LSpendScript$ByteString;)V"⟩
abbrev b_BS_becomePartOf : ByteArray := prog_3_method_8_code
def y_BS_becomePartOf : MethodName := ⟨"SpendScript$ByteString", "becomePartOf", "(LSpendScript$ByteString;II)V"⟩
abbrev b_BS_sameBytesAs : ByteArray := prog_3_method_9_code
def y_BS_sameBytesAs : MethodName := ⟨"SpendScript$ByteString", "sameBytesAs", "(LSpendScript$ByteString;)Z"⟩
abbrev b_BS_hash : ByteArray := prog_3_method_10_code
def y_BS_hash : MethodName := ⟨"SpendScript$ByteString", "hash", "(II)I"⟩
abbrev b_BS_becomeDigest : ByteArray := prog_3_method_11_code
def y_BS_becomeDigest : MethodName := ⟨"SpendScript$ByteString", "becomeDigest", "(I)V"⟩
abbrev b_BS_isTrue : ByteArray := prog_3_method_12_code
def y_BS_isTrue : MethodName := ⟨"SpendScript$ByteString", "isTrue", "()Z"⟩
abbrev b_BS_isNumber : ByteArray := prog_3_method_13_code
def y_BS_isNumber : MethodName := ⟨"SpendScript$ByteString", "isNumber", "()Z"⟩
abbrev b_BS_number : ByteArray := prog_3_method_14_code
def y_BS_number : MethodName := ⟨"SpendScript$ByteString", "number", "()J"⟩
abbrev b_BS_becomeNumber : ByteArray := prog_3_method_15_code
def y_BS_becomeNumber : MethodName := ⟨"SpendScript$ByteString", "becomeNumber", "(J)V"⟩
abbrev b_BS_isWellFormedSignature : ByteArray := prog_3_method_16_code
def y_BS_isWellFormedSignature : MethodName := ⟨"SpendScript$ByteString", "isWellFormedSignature", "()Z"⟩
abbrev b_IS_init : ByteArray := prog_5_method_1_code
def y_IS_init : MethodName := ⟨"SpendScript$ItemStack", "<init>", "()V"⟩
abbrev b_IS_size : ByteArray := prog_5_method_2_code
def y_IS_size : MethodName := ⟨"SpendScript$ItemStack", "size", "()I"⟩
abbrev b_IS_has : ByteArray := prog_5_method_3_code
def y_IS_has : MethodName := ⟨"SpendScript$ItemStack", "has", "(I)Z"⟩
abbrev b_IS_item : ByteArray := prog_5_method_4_code
def y_IS_item : MethodName := ⟨"SpendScript$ItemStack", "item", "(I)LSpendScript$ByteString;"⟩
abbrev b_IS_makeEmpty : ByteArray := prog_5_method_5_code
def y_IS_makeEmpty : MethodName := ⟨"SpendScript$ItemStack", "makeEmpty", "()V"⟩
abbrev b_IS_becomeCopyOf : ByteArray := prog_5_method_6_code
def y_IS_becomeCopyOf : MethodName := ⟨"SpendScript$ItemStack", "becomeCopyOf", "(LSpendScript$ItemStack;)V"⟩
abbrev b_IS_push : ByteArray := prog_5_method_7_code
def y_IS_push : MethodName := ⟨"SpendScript$ItemStack", "push", "()LSpendScript$ByteString;"⟩
abbrev b_IS_pushCopy : ByteArray := prog_5_method_8_code
def y_IS_pushCopy : MethodName := ⟨"SpendScript$ItemStack", "pushCopy", "(I)V"⟩
abbrev b_IS_drop : ByteArray := prog_5_method_9_code
def y_IS_drop : MethodName := ⟨"SpendScript$ItemStack", "drop", "(I)V"⟩
abbrev b_IS_raise : ByteArray := prog_5_method_10_code
def y_IS_raise : MethodName := ⟨"SpendScript$ItemStack", "raise", "(I)V"⟩
abbrev b_IS_sinkTop : ByteArray := prog_5_method_11_code
def y_IS_sinkTop : MethodName := ⟨"SpendScript$ItemStack", "sinkTop", "(I)V"⟩
abbrev b_MC_init : ByteArray := prog_6_method_1_code
def y_MC_init : MethodName := ⟨"SpendScript$Machine", "<init>", "(LSpendScript$ItemStack;LSpendScript$SignatureTable;)V"⟩
abbrev b_MC_restart : ByteArray := prog_6_method_2_code
def y_MC_restart : MethodName := ⟨"SpendScript$Machine", "restart", "()V"⟩
abbrev b_MC_place : ByteArray := prog_6_method_3_code
def y_MC_place : MethodName := ⟨"SpendScript$Machine", "place", "()I"⟩
abbrev b_MC_doneCount : ByteArray := prog_6_method_4_code
def y_MC_doneCount : MethodName := ⟨"SpendScript$Machine", "doneCount", "()I"⟩
abbrev b_MC_run : ByteArray := prog_6_method_5_code
def y_MC_run : MethodName := ⟨"SpendScript$Machine", "run", "(LSpendScript$ByteString;Z)I"⟩
abbrev b_MC_dataBytes : ByteArray := prog_6_method_6_code
def y_MC_dataBytes : MethodName := ⟨"SpendScript$Machine", "dataBytes", "(I)I"⟩
abbrev b_MC_meetPush : ByteArray := prog_6_method_7_code
def y_MC_meetPush : MethodName := ⟨"SpendScript$Machine", "meetPush", "(LSpendScript$ByteString;I)I"⟩
abbrev b_MC_formFault : ByteArray := prog_6_method_8_code
def y_MC_formFault : MethodName := ⟨"SpendScript$Machine", "formFault", "(LSpendScript$ByteString;I)I"⟩
abbrev b_MC_meetOperation : ByteArray := prog_6_method_9_code
def y_MC_meetOperation : MethodName := ⟨"SpendScript$Machine", "meetOperation", "(I)I"⟩
abbrev b_MC_openBranch : ByteArray := prog_6_method_10_code
def y_MC_openBranch : MethodName := ⟨"SpendScript$Machine", "openBranch", "(Z)I"⟩
abbrev b_MC_turnBranch : ByteArray := prog_6_method_11_code
def y_MC_turnBranch : MethodName := ⟨"SpendScript$Machine", "turnBranch", "(Z)I"⟩
abbrev b_OP_init : ByteArray := prog_7_method_1_code
def y_OP_init : MethodName := ⟨"SpendScript$Operations", "<init>", "(LSpendScript$ItemStack;LSpendScript$ItemStack;LSpendScript$SignatureTable;)V"⟩
abbrev b_OP_isKnown : ByteArray := prog_7_method_2_code
def y_OP_isKnown : MethodName := ⟨"SpendScript$Operations", "isKnown", "(I)Z"⟩
abbrev b_OP_operate : ByteArray := prog_7_method_3_code
def y_OP_operate : MethodName := ⟨"SpendScript$Operations", "operate", "(I)I"⟩
abbrev b_OP_fetchFromSecond : ByteArray := prog_7_method_4_code
def y_OP_fetchFromSecond : MethodName := ⟨"SpendScript$Operations", "fetchFromSecond", "()I"⟩
abbrev b_OP_pick : ByteArray := prog_7_method_5_code
def y_OP_pick : MethodName := ⟨"SpendScript$Operations", "pick", "(Z)I"⟩
abbrev b_OP_countFault : ByteArray := prog_7_method_6_code
def y_OP_countFault : MethodName := ⟨"SpendScript$Operations", "countFault", "(II)I"⟩
abbrev b_OP_numberFault : ByteArray := prog_7_method_7_code
def y_OP_numberFault : MethodName := ⟨"SpendScript$Operations", "numberFault", "(I)I"⟩
abbrev b_OP_checkSeveralSignatures : ByteArray := prog_7_method_8_code
def y_OP_checkSeveralSignatures : MethodName := ⟨"SpendScript$Operations", "checkSeveralSignatures", "()I"⟩
abbrev b_OP_allSigned : ByteArray := prog_7_method_9_code
def y_OP_allSigned : MethodName := ⟨"SpendScript$Operations", "allSigned", "(II)Z"⟩
abbrev b_OP_calculate : ByteArray := prog_7_method_10_code
def y_OP_calculate : MethodName := ⟨"SpendScript$Operations", "calculate", "(I)I"⟩
abbrev b_OP_ofOne : ByteArray := prog_7_method_11_code
def y_OP_ofOne : MethodName := ⟨"SpendScript$Operations", "ofOne", "(IJ)J"⟩
abbrev b_OP_ofTwo : ByteArray := prog_7_method_12_code
def y_OP_ofTwo : MethodName := ⟨"SpendScript$Operations", "ofTwo", "(IJJ)J"⟩
abbrev b_OP_oneIf : ByteArray := prog_7_method_13_code
def y_OP_oneIf : MethodName := ⟨"SpendScript$Operations", "oneIf", "(Z)I"⟩
abbrev b_OP_itemsFault : ByteArray := prog_7_method_14_code
def y_OP_itemsFault : MethodName := ⟨"SpendScript$Operations", "itemsFault", "(I)I"⟩
abbrev b_OP_itemsNamed : ByteArray := prog_7_method_15_code
def y_OP_itemsNamed : MethodName := ⟨"SpendScript$Operations", "itemsNamed", "(I)I"⟩
abbrev b_OP_isVerified : ByteArray := prog_7_method_16_code
def y_OP_isVerified : MethodName := ⟨"SpendScript$Operations", "isVerified", "(I)Z"⟩
abbrev b_OP_itemsMore : ByteArray := prog_7_method_17_code
def y_OP_itemsMore : MethodName := ⟨"SpendScript$Operations", "itemsMore", "(I)I"⟩
abbrev b_OP_arrange : ByteArray := prog_7_method_18_code
def y_OP_arrange : MethodName := ⟨"SpendScript$Operations", "arrange", "(I)V"⟩
abbrev b_OP_judge : ByteArray := prog_7_method_19_code
def y_OP_judge : MethodName := ⟨"SpendScript$Operations", "judge", "(I)V"⟩
abbrev b_OP_answer : ByteArray := prog_7_method_20_code
def y_OP_answer : MethodName := ⟨"SpendScript$Operations", "answer", "(IZ)V"⟩
abbrev b_OP_pushNumber : ByteArray := prog_7_method_21_code
def y_OP_pushNumber : MethodName := ⟨"SpendScript$Operations", "pushNumber", "(J)V"⟩
abbrev b_ST_init : ByteArray := prog_8_method_1_code
def y_ST_init : MethodName := ⟨"SpendScript$SignatureTable", "<init>", "()V"⟩
abbrev b_ST_add : ByteArray := prog_8_method_2_code
def y_ST_add : MethodName := ⟨"SpendScript$SignatureTable", "add", "(II)Z"⟩
abbrev b_ST_isValid : ByteArray := prog_8_method_3_code
def y_ST_isValid : MethodName := ⟨"SpendScript$SignatureTable", "isValid", "(LSpendScript$ByteString;LSpendScript$ByteString;)Z"⟩
abbrev b_LW_law : ByteArray := code
abbrev sp_cl : List vw_C := [(R_BS, F_BS, 2), (R_IS, F_IS, 3), (R_ST, F_ST, 3), (R_BR, F_BR, 2), (R_MC, F_MC, 7), (R_OP, F_OP, 3), (R_SS, F_SS, 10), (R_MD, F_MD, 19)]
def sp_ws : List Cond := lw_tbl.filter goodWord
theorem sp_tb {w : Cond} (h : w ∈ tables_1) (hg : goodWord w = true := by rfl) : w ∈ sp_ws := List.mem_filter.mpr ⟨List.mem_append_right _ h, hg⟩
theorem sp_pv {q : MethodName × Nat} (h : q ∈ lw_privs) : Cond.selects q.1.cls q.1 q.1 ∈ sp_ws := List.mem_filter.mpr ⟨List.mem_append_left _ (List.mem_map.mpr ⟨q, h, rfl⟩), rfl⟩
set_option maxRecDepth 100000 in
theorem sp_wgood : sp_ws.all goodWord = true := List.all_eq_true.mpr (fun w h => (List.mem_filter.mp h).2)
theorem sp_good {y : MethodName} {bytes : ByteArray} {maxL : Nat} {ret : Option FieldType} (h : Cond.code y bytes maxL ret ∈ sp_ws) : GoodIn sp_ws (Cond.code y bytes maxL ret :: sp_ws) := fun w hw => by
  have hm : w ∈ sp_ws := (List.mem_cons.mp hw).elim (fun e => e ▸ h) id
  exact ⟨hm, good_of_word (List.all_eq_true.mp sp_wgood w hm)⟩
theorem ia_BS_0 : u_lay R_BS F_BS 0 ∈ sp_ws := (sp_tb (List.mem_of_getElem? (i := 27) (by decide +kernel)))
theorem ia_BS_1 : u_lay R_BS F_BS 1 ∈ sp_ws := (sp_tb (List.mem_of_getElem? (i := 29) (by decide +kernel)))
theorem iw_BS : ∀ w ∈ u_ws R_BS F_BS 2, w ∈ sp_ws := fun w h => by
  obtain ⟨k, hk, rfl⟩ := List.mem_map.mp h
  have hk := List.mem_range.mp hk
  rcases (show k = 0 ∨ k = 1 by omega) with rfl | rfl
  · exact ia_BS_0
  · exact ia_BS_1
theorem ia_IS_0 : u_lay R_IS F_IS 0 ∈ sp_ws := (sp_tb (List.mem_of_getElem? (i := 61) (by decide +kernel)))
theorem ia_IS_1 : u_lay R_IS F_IS 1 ∈ sp_ws := (sp_tb (List.mem_of_getElem? (i := 63) (by decide +kernel)))
theorem ia_IS_2 : u_lay R_IS F_IS 2 ∈ sp_ws := (sp_tb (List.mem_of_getElem? (i := 65) (by decide +kernel)))
theorem iw_IS : ∀ w ∈ u_ws R_IS F_IS 3, w ∈ sp_ws := fun w h => by
  obtain ⟨k, hk, rfl⟩ := List.mem_map.mp h
  have hk := List.mem_range.mp hk
  rcases (show k = 0 ∨ k = 1 ∨ k = 2 by omega) with rfl | rfl | rfl
  · exact ia_IS_0
  · exact ia_IS_1
  · exact ia_IS_2
theorem ia_ST_0 : u_lay R_ST F_ST 0 ∈ sp_ws := (sp_tb (List.mem_of_getElem? (i := 42) (by decide +kernel)))
theorem ia_ST_1 : u_lay R_ST F_ST 1 ∈ sp_ws := (sp_tb (List.mem_of_getElem? (i := 44) (by decide +kernel)))
theorem ia_ST_2 : u_lay R_ST F_ST 2 ∈ sp_ws := (sp_tb (List.mem_of_getElem? (i := 46) (by decide +kernel)))
theorem iw_ST : ∀ w ∈ u_ws R_ST F_ST 3, w ∈ sp_ws := fun w h => by
  obtain ⟨k, hk, rfl⟩ := List.mem_map.mp h
  have hk := List.mem_range.mp hk
  rcases (show k = 0 ∨ k = 1 ∨ k = 2 by omega) with rfl | rfl | rfl
  · exact ia_ST_0
  · exact ia_ST_1
  · exact ia_ST_2
theorem ia_BR_0 : u_lay R_BR F_BR 0 ∈ sp_ws := (sp_tb (List.mem_of_getElem? (i := 84) (by decide +kernel)))
theorem ia_BR_1 : u_lay R_BR F_BR 1 ∈ sp_ws := (sp_tb (List.mem_of_getElem? (i := 86) (by decide +kernel)))
theorem iw_BR : ∀ w ∈ u_ws R_BR F_BR 2, w ∈ sp_ws := fun w h => by
  obtain ⟨k, hk, rfl⟩ := List.mem_map.mp h
  have hk := List.mem_range.mp hk
  rcases (show k = 0 ∨ k = 1 by omega) with rfl | rfl
  · exact ia_BR_0
  · exact ia_BR_1
theorem ia_MC_0 : u_lay R_MC F_MC 0 ∈ sp_ws := (sp_tb (List.mem_of_getElem? (i := 113) (by decide +kernel)))
theorem ia_MC_1 : u_lay R_MC F_MC 1 ∈ sp_ws := (sp_tb (List.mem_of_getElem? (i := 115) (by decide +kernel)))
theorem ia_MC_2 : u_lay R_MC F_MC 2 ∈ sp_ws := (sp_tb (List.mem_of_getElem? (i := 117) (by decide +kernel)))
theorem ia_MC_3 : u_lay R_MC F_MC 3 ∈ sp_ws := (sp_tb (List.mem_of_getElem? (i := 119) (by decide +kernel)))
theorem ia_MC_4 : u_lay R_MC F_MC 4 ∈ sp_ws := (sp_tb (List.mem_of_getElem? (i := 121) (by decide +kernel)))
theorem ia_MC_5 : u_lay R_MC F_MC 5 ∈ sp_ws := (sp_tb (List.mem_of_getElem? (i := 123) (by decide +kernel)))
theorem ia_MC_6 : u_lay R_MC F_MC 6 ∈ sp_ws := (sp_tb (List.mem_of_getElem? (i := 125) (by decide +kernel)))
theorem iw_MC : ∀ w ∈ u_ws R_MC F_MC 7, w ∈ sp_ws := fun w h => by
  obtain ⟨k, hk, rfl⟩ := List.mem_map.mp h
  have hk := List.mem_range.mp hk
  rcases (show k = 0 ∨ k = 1 ∨ k = 2 ∨ k = 3 ∨ k = 4 ∨ k = 5 ∨ k = 6 by omega) with rfl | rfl | rfl | rfl | rfl | rfl | rfl
  · exact ia_MC_0
  · exact ia_MC_1
  · exact ia_MC_2
  · exact ia_MC_3
  · exact ia_MC_4
  · exact ia_MC_5
  · exact ia_MC_6
theorem ia_OP_0 : u_lay R_OP F_OP 0 ∈ sp_ws := (sp_tb (List.mem_of_getElem? (i := 99) (by decide +kernel)))
theorem ia_OP_1 : u_lay R_OP F_OP 1 ∈ sp_ws := (sp_tb (List.mem_of_getElem? (i := 101) (by decide +kernel)))
theorem ia_OP_2 : u_lay R_OP F_OP 2 ∈ sp_ws := (sp_tb (List.mem_of_getElem? (i := 103) (by decide +kernel)))
theorem iw_OP : ∀ w ∈ u_ws R_OP F_OP 3, w ∈ sp_ws := fun w h => by
  obtain ⟨k, hk, rfl⟩ := List.mem_map.mp h
  have hk := List.mem_range.mp hk
  rcases (show k = 0 ∨ k = 1 ∨ k = 2 by omega) with rfl | rfl | rfl
  · exact ia_OP_0
  · exact ia_OP_1
  · exact ia_OP_2
theorem ia_SS_0 : u_lay R_SS F_SS 0 ∈ sp_ws := (sp_tb (List.mem_of_getElem? (i := 138) (by decide +kernel)))
theorem ia_SS_1 : u_lay R_SS F_SS 1 ∈ sp_ws := (sp_tb (List.mem_of_getElem? (i := 140) (by decide +kernel)))
theorem ia_SS_2 : u_lay R_SS F_SS 2 ∈ sp_ws := (sp_tb (List.mem_of_getElem? (i := 142) (by decide +kernel)))
theorem ia_SS_3 : u_lay R_SS F_SS 3 ∈ sp_ws := (sp_tb (List.mem_of_getElem? (i := 144) (by decide +kernel)))
theorem ia_SS_4 : u_lay R_SS F_SS 4 ∈ sp_ws := (sp_tb (List.mem_of_getElem? (i := 146) (by decide +kernel)))
theorem ia_SS_5 : u_lay R_SS F_SS 5 ∈ sp_ws := (sp_tb (List.mem_of_getElem? (i := 148) (by decide +kernel)))
theorem ia_SS_6 : u_lay R_SS F_SS 6 ∈ sp_ws := (sp_tb (List.mem_of_getElem? (i := 150) (by decide +kernel)))
theorem ia_SS_7 : u_lay R_SS F_SS 7 ∈ sp_ws := (sp_tb (List.mem_of_getElem? (i := 152) (by decide +kernel)))
theorem ia_SS_8 : u_lay R_SS F_SS 8 ∈ sp_ws := (sp_tb (List.mem_of_getElem? (i := 154) (by decide +kernel)))
theorem ia_SS_9 : u_lay R_SS F_SS 9 ∈ sp_ws := (sp_tb (List.mem_of_getElem? (i := 156) (by decide +kernel)))
theorem iw_SS : ∀ w ∈ u_ws R_SS F_SS 10, w ∈ sp_ws := fun w h => by
  obtain ⟨k, hk, rfl⟩ := List.mem_map.mp h
  have hk := List.mem_range.mp hk
  rcases (show k = 0 ∨ k = 1 ∨ k = 2 ∨ k = 3 ∨ k = 4 ∨ k = 5 ∨ k = 6 ∨ k = 7 ∨ k = 8 ∨ k = 9 by omega) with rfl | rfl | rfl | rfl | rfl | rfl | rfl | rfl | rfl | rfl
  · exact ia_SS_0
  · exact ia_SS_1
  · exact ia_SS_2
  · exact ia_SS_3
  · exact ia_SS_4
  · exact ia_SS_5
  · exact ia_SS_6
  · exact ia_SS_7
  · exact ia_SS_8
  · exact ia_SS_9
theorem ia_MD_0 : u_lay R_MD F_MD 0 ∈ sp_ws := (sp_tb (List.mem_of_getElem? (i := 556) (by decide +kernel)))
theorem ia_MD_1 : u_lay R_MD F_MD 1 ∈ sp_ws := (sp_tb (List.mem_of_getElem? (i := 558) (by decide +kernel)))
theorem ia_MD_2 : u_lay R_MD F_MD 2 ∈ sp_ws := (sp_tb (List.mem_of_getElem? (i := 560) (by decide +kernel)))
theorem ia_MD_3 : u_lay R_MD F_MD 3 ∈ sp_ws := (sp_tb (List.mem_of_getElem? (i := 562) (by decide +kernel)))
theorem ia_MD_4 : u_lay R_MD F_MD 4 ∈ sp_ws := (sp_tb (List.mem_of_getElem? (i := 564) (by decide +kernel)))
theorem ia_MD_5 : u_lay R_MD F_MD 5 ∈ sp_ws := (sp_tb (List.mem_of_getElem? (i := 566) (by decide +kernel)))
theorem ia_MD_6 : u_lay R_MD F_MD 6 ∈ sp_ws := (sp_tb (List.mem_of_getElem? (i := 568) (by decide +kernel)))
theorem ia_MD_7 : u_lay R_MD F_MD 7 ∈ sp_ws := (sp_tb (List.mem_of_getElem? (i := 570) (by decide +kernel)))
theorem ia_MD_8 : u_lay R_MD F_MD 8 ∈ sp_ws := (sp_tb (List.mem_of_getElem? (i := 572) (by decide +kernel)))
theorem ia_MD_9 : u_lay R_MD F_MD 9 ∈ sp_ws := (sp_tb (List.mem_of_getElem? (i := 574) (by decide +kernel)))
theorem ia_MD_10 : u_lay R_MD F_MD 10 ∈ sp_ws := (sp_tb (List.mem_of_getElem? (i := 576) (by decide +kernel)))
theorem ia_MD_11 : u_lay R_MD F_MD 11 ∈ sp_ws := (sp_tb (List.mem_of_getElem? (i := 578) (by decide +kernel)))
theorem ia_MD_12 : u_lay R_MD F_MD 12 ∈ sp_ws := (sp_tb (List.mem_of_getElem? (i := 580) (by decide +kernel)))
theorem ia_MD_13 : u_lay R_MD F_MD 13 ∈ sp_ws := (sp_tb (List.mem_of_getElem? (i := 582) (by decide +kernel)))
theorem ia_MD_14 : u_lay R_MD F_MD 14 ∈ sp_ws := (sp_tb (List.mem_of_getElem? (i := 584) (by decide +kernel)))
theorem ia_MD_15 : u_lay R_MD F_MD 15 ∈ sp_ws := (sp_tb (List.mem_of_getElem? (i := 586) (by decide +kernel)))
theorem ia_MD_16 : u_lay R_MD F_MD 16 ∈ sp_ws := (sp_tb (List.mem_of_getElem? (i := 588) (by decide +kernel)))
theorem ia_MD_17 : u_lay R_MD F_MD 17 ∈ sp_ws := (sp_tb (List.mem_of_getElem? (i := 590) (by decide +kernel)))
theorem ia_MD_18 : u_lay R_MD F_MD 18 ∈ sp_ws := (sp_tb (List.mem_of_getElem? (i := 592) (by decide +kernel)))
theorem iw_MD : ∀ w ∈ u_ws R_MD F_MD 19, w ∈ sp_ws := fun w h => by
  obtain ⟨k, hk, rfl⟩ := List.mem_map.mp h
  have hk := List.mem_range.mp hk
  rcases (show k = 0 ∨ k = 1 ∨ k = 2 ∨ k = 3 ∨ k = 4 ∨ k = 5 ∨ k = 6 ∨ k = 7 ∨ k = 8 ∨ k = 9 ∨ k = 10 ∨ k = 11 ∨ k = 12 ∨ k = 13 ∨ k = 14 ∨ k = 15 ∨ k = 16 ∨ k = 17 ∨ k = 18 by omega) with rfl | rfl | rfl | rfl | rfl | rfl | rfl | rfl | rfl | rfl | rfl | rfl | rfl | rfl | rfl | rfl | rfl | rfl | rfl
  · exact ia_MD_0
  · exact ia_MD_1
  · exact ia_MD_2
  · exact ia_MD_3
  · exact ia_MD_4
  · exact ia_MD_5
  · exact ia_MD_6
  · exact ia_MD_7
  · exact ia_MD_8
  · exact ia_MD_9
  · exact ia_MD_10
  · exact ia_MD_11
  · exact ia_MD_12
  · exact ia_MD_13
  · exact ia_MD_14
  · exact ia_MD_15
  · exact ia_MD_16
  · exact ia_MD_17
  · exact ia_MD_18
end
section
/-! The labels: 0 the SpendScript, 1 .. 205 what it holds, in the order of their making; 206 the model, 207 .. 215 its arrays -/
abbrev xh_T : Type := (Nat → Nat → Int32) × (Nat → Nat → Nat) × (Nat → Nat → Int64)
abbrev xh_G : Type := (Nat → Nat) × ClassId × ClassId × ClassId × ClassId
abbrev xh_L : Type := (Nat × Nat) ⊕ (Nat × List (Option Nat))
abbrev sp_BS : String := R_BS
abbrev sp_n : Nat := 216
def sp_lb (q n : Nat) : List xh_L := [.inr (0, [some (q + 1), none]), .inl (0, n)]
def sp_ls (S : Nat) : List xh_L := [.inr (1, [some (S + 1), some (S + 62), none]), .inl (3, 30)] ++ (List.range 30).flatMap (fun i => sp_lb (S + 2 + 2 * i) 32) ++ sp_lb (S + 62) 0
def sp_ll : List xh_L := [.inr (6, [some 1, some 3, some 5, some 7, some 10, some 74, some 138, none, none, none])] ++ sp_lb 1 120 ++ sp_lb 3 120 ++ sp_lb 5 32 ++ [.inr (2, [some 8, some 9, none]), .inl (0, 8), .inl (0, 8)] ++ sp_ls 10 ++ sp_ls 74 ++ [.inr (4, [some 10, some 139, some 203, some 205, none, none, none])] ++ sp_ls 139 ++ [.inr (3, [some 204, none]), .inl (1, 8)] ++ [.inr (5, [some 10, some 139, some 7])] ++ [.inr (7, [some 207, some 208, some 209, some 210, some 211, none, none, some 212, none, none, none, some 213, some 214, none, none, none, none, none, some 215]), .inl (0, 360), .inl (0, 3), .inl (0, 1089), .inl (0, 1089), .inl (0, 1089), .inl (1, 8), .inl (0, 8), .inl (0, 8), .inl (2, 3)]
def sp_lay (k : Nat) : xh_L := sp_ll.getD k (.inl (9, 0))
def sp_len (k : Nat) : Nat := match sp_lay k with
  | .inl q => q.2
  | .inr _ => 0
def sp_fuel : Nat := 4096
abbrev sp_clBS : vw_C := (R_BS, F_BS, 2)
abbrev sp_ciBS : Nat := 0
def sp_bs (q : Nat) : Bool := decide (q + 1 < sp_n ∧ sp_lay q = .inr (0, [some (q + 1), none]) ∧ sp_lay (q + 1) = .inl (0, sp_len (q + 1)))
theorem sp_bs_of {q : Nat} (h : sp_bs q = true) : q + 1 < sp_n ∧ sp_lay q = .inr (0, [some (q + 1), none]) ∧ sp_lay (q + 1) = .inl (0, sp_len (q + 1)) := of_decide_eq_true h
theorem sp_bs_lt {q : Nat} (h : sp_bs q = true) : q < sp_n := Nat.lt_of_succ_lt (sp_bs_of h).1
theorem sp_bs_v {q : Nat} (h : sp_bs q = true) : q < sp_n ∧ ∃ fds, sp_lay q = .inr (0, fds) := ⟨sp_bs_lt h, _, (sp_bs_of h).2.1⟩
def sp_is (S : Nat) : Bool := decide (S = 10 ∨ S = 74 ∨ S = 139)
theorem sp_is_of {S : Nat} (h : sp_is S = true) : S < sp_n ∧ sp_lay S = .inr (1, [some (S + 1), some (S + 62), none]) ∧ S + 1 < sp_n ∧ sp_lay (S + 1) = .inl (3, 30) ∧ sp_bs (S + 62) = true := by
  have h := of_decide_eq_true h
  rcases h with rfl | rfl | rfl <;> decide +kernel
theorem sp_is_v {S : Nat} (h : sp_is S = true) : S < sp_n ∧ ∃ fds, sp_lay S = .inr (1, fds) := ⟨(sp_is_of h).1, _, (sp_is_of h).2.1⟩
def sp_ia (q : Nat) : Bool := decide (q < sp_n ∧ sp_lay q = .inl (0, sp_len q))
theorem sp_ia_of {q : Nat} (h : sp_ia q = true) : q < sp_n ∧ sp_lay q = .inl (0, sp_len q) := of_decide_eq_true h

theorem ly_0 : sp_lay 0 = .inr (6, [some 1, some 3, some 5, some 7, some 10, some 74, some 138, none, none, none]) := by decide +kernel
theorem lq_0 : 0 < sp_n := by decide
theorem ly_1 : sp_lay 1 = .inr (0, [some 2, none]) := by decide +kernel
theorem lq_1 : 1 < sp_n := by decide
theorem ly_2 : sp_lay 2 = .inl (0, 120) := by decide +kernel
theorem lq_2 : 2 < sp_n := by decide
theorem ly_3 : sp_lay 3 = .inr (0, [some 4, none]) := by decide +kernel
theorem lq_3 : 3 < sp_n := by decide
theorem ly_4 : sp_lay 4 = .inl (0, 120) := by decide +kernel
theorem lq_4 : 4 < sp_n := by decide
theorem ly_5 : sp_lay 5 = .inr (0, [some 6, none]) := by decide +kernel
theorem lq_5 : 5 < sp_n := by decide
theorem ly_6 : sp_lay 6 = .inl (0, 32) := by decide +kernel
theorem lq_6 : 6 < sp_n := by decide
theorem ly_7 : sp_lay 7 = .inr (2, [some 8, some 9, none]) := by decide +kernel
theorem lq_7 : 7 < sp_n := by decide
theorem ly_8 : sp_lay 8 = .inl (0, 8) := by decide +kernel
theorem lq_8 : 8 < sp_n := by decide
theorem ly_9 : sp_lay 9 = .inl (0, 8) := by decide +kernel
theorem lq_9 : 9 < sp_n := by decide
theorem ly_10 : sp_lay 10 = .inr (1, [some 11, some 72, none]) := by decide +kernel
theorem lq_10 : 10 < sp_n := by decide
theorem ly_11 : sp_lay 11 = .inl (3, 30) := by decide +kernel
theorem lq_11 : 11 < sp_n := by decide
theorem ly_74 : sp_lay 74 = .inr (1, [some 75, some 136, none]) := by decide +kernel
theorem lq_74 : 74 < sp_n := by decide
theorem ly_75 : sp_lay 75 = .inl (3, 30) := by decide +kernel
theorem lq_75 : 75 < sp_n := by decide
theorem ly_138 : sp_lay 138 = .inr (4, [some 10, some 139, some 203, some 205, none, none, none]) := by decide +kernel
theorem lq_138 : 138 < sp_n := by decide
theorem ly_139 : sp_lay 139 = .inr (1, [some 140, some 201, none]) := by decide +kernel
theorem lq_139 : 139 < sp_n := by decide
theorem ly_140 : sp_lay 140 = .inl (3, 30) := by decide +kernel
theorem lq_140 : 140 < sp_n := by decide
theorem ly_203 : sp_lay 203 = .inr (3, [some 204, none]) := by decide +kernel
theorem lq_203 : 203 < sp_n := by decide
theorem ly_204 : sp_lay 204 = .inl (1, 8) := by decide +kernel
theorem lq_204 : 204 < sp_n := by decide
theorem ly_205 : sp_lay 205 = .inr (5, [some 10, some 139, some 7]) := by decide +kernel
theorem lq_205 : 205 < sp_n := by decide
theorem ly_206 : sp_lay 206 = .inr (7, [some 207, some 208, some 209, some 210, some 211, none, none, some 212, none, none, none, some 213, some 214, none, none, none, none, none, some 215]) := by decide +kernel
theorem lq_206 : 206 < sp_n := by decide
theorem ly_207 : sp_lay 207 = .inl (0, 360) := by decide +kernel
theorem lq_207 : 207 < sp_n := by decide
theorem ly_208 : sp_lay 208 = .inl (0, 3) := by decide +kernel
theorem lq_208 : 208 < sp_n := by decide
theorem ly_209 : sp_lay 209 = .inl (0, 1089) := by decide +kernel
theorem lq_209 : 209 < sp_n := by decide
theorem ly_210 : sp_lay 210 = .inl (0, 1089) := by decide +kernel
theorem lq_210 : 210 < sp_n := by decide
theorem ly_211 : sp_lay 211 = .inl (0, 1089) := by decide +kernel
theorem lq_211 : 211 < sp_n := by decide
theorem ly_212 : sp_lay 212 = .inl (1, 8) := by decide +kernel
theorem lq_212 : 212 < sp_n := by decide
theorem ly_213 : sp_lay 213 = .inl (0, 8) := by decide +kernel
theorem lq_213 : 213 < sp_n := by decide
theorem ly_214 : sp_lay 214 = .inl (0, 8) := by decide +kernel
theorem lq_214 : 214 < sp_n := by decide
theorem ly_215 : sp_lay 215 = .inl (2, 3) := by decide +kernel
theorem lq_215 : 215 < sp_n := by decide
end
section
/-! The abstract heap: X.1 k j is the int field or element j of the cell with label k, X.2.1 k j the label that the array of references k holds at j, X.2.2 k j an element of an array of longs. What kind of cell a label has is fixed (sp_lay); G: the labels' addresses and the array classes. -/
def xh_i (X : xh_T) (k j : Nat) (v : Int32) : xh_T := (va_up X.1 k (upd (X.1 k) j v), X.2)
def xh_r (X : xh_T) (k j t : Nat) : xh_T := (X.1, va_up X.2.1 k (va_up (X.2.1 k) j t), X.2.2)
def xh_l (X : xh_T) (k j : Nat) (v : Int64) : xh_T := (X.1, X.2.1, va_up X.2.2 k (vp_updL (X.2.2 k) j v))
def xh_a (X : xh_T) (k : Nat) (f : Nat → Int32) : xh_T := (va_up X.1 k f, X.2)
def xh_e (ad : Nat → Nat) (v : Int32) (o : Option (Option Nat)) : Value := match o with
  | some (some t) => Value.ref (ad t)
  | _ => Value.int v
def xh_f (ad : Nat → Nat) (g : Nat → Int32) (fds : List (Option Nat)) : List Value := (List.range fds.length).map (fun j => xh_e ad (g j) fds[j]?)
def xh_c (G : xh_G) (X : xh_T) (k : Nat) (L : xh_L) : va_E := match L with
  | .inl (0, n) => .inl (G.2.1, n, .inl (X.1 k))
  | .inl (1, n) => .inl (G.2.2.1, n, .inl (X.1 k))
  | .inl (2, n) => .inl (G.2.2.2.1, n, .inr (.inl (X.2.2 k)))
  | .inl (_, n) => .inl (G.2.2.2.2, n, .inr (.inr (.inr (.inr (fun j => some (G.1 (X.2.1 k j)))))))
  | .inr (ci, fds) => .inr (ci, xh_f G.1 (X.1 k) fds)
def xh_w (G : xh_G) (X : xh_T) : va_W := (List.range sp_n).map (fun k => (G.1 k, xh_c G X k (sp_lay k)))
def xh_ty (G : xh_G) : List (ClassId × FieldType) := [(G.2.1, .int), (G.2.2.1, .boolean), (G.2.2.2.1, .long), (G.2.2.2.2, .object sp_BS)]
def xh_A (G : xh_G) (sz : Nat) (q : Nat) : Prop := (∃ k, k < sp_n ∧ q = G.1 k) ∨ sz ≤ q
def xh_D (G : xh_G) : Prop := ∀ i j, i < sp_n → j < sp_n → G.1 i = G.1 j → i = j
-- words of the pure functions
def xh_n {α β : Type} (x : α) (K : α → β) : β := K x
def xh_o {β : Type} (i : Int32) (n : Nat) (K : Option β) : Option β := if i < 0 ∨ n ≤ i.toNatClampNeg then none else K
def xh_k {β : Type} (b : Bool) (K : Option β) : Option β := if b = true then K else none
def xh_z {β : Type} (v : Int32) (K : Option β) : Option β := if v = 0 ∨ v = 1 then K else none
def xh_b {α β : Type} (o : Option (α × xh_T)) (K : α → xh_T → Option β) : Option β := match o with
  | some (r, X) => K r X
  | none => none
def xh_ush (x y : Int32) : Int32 := (x.toUInt32 >>> (y.toUInt32 &&& Int32.toUInt32 31)).toInt32
def xh_cp {β : Type} (sp dp n : Int32) (n0 n1 : Nat) (K : Option β) : Option β := if sp < 0 ∨ dp < 0 ∨ n < 0 ∨ n0 < sp.toNatClampNeg + n.toNatClampNeg ∨ n1 < dp.toNatClampNeg + n.toNatClampNeg then none else K
theorem xh_at {G : xh_G} {X : xh_T} {k : Nat} (h : k < sp_n) : (xh_w G X)[k]? = some (G.1 k, xh_c G X k (sp_lay k)) := by
  simp [xh_w, h]
theorem xh_get {G : xh_G} {X : xh_T} {k : Nat} {q : Nat × va_E} (h : (xh_w G X)[k]? = some q) : k < sp_n ∧ q = (G.1 k, xh_c G X k (sp_lay k)) := by
  have hk : k < sp_n := by
    have := (List.getElem?_eq_some_iff.mp h).1
    simpa [xh_w] using this
  rw [xh_at hk] at h
  exact ⟨hk, (Option.some.inj h).symm⟩
theorem xh_c_eq {G : xh_G} {X X' : xh_T} {j : Nat} {L : xh_L} (h1 : X'.1 j = X.1 j) (h2 : X'.2.1 j = X.2.1 j) (h3 : X'.2.2 j = X.2.2 j) : xh_c G X' j L = xh_c G X j L := by
  unfold xh_c
  rw [h1, h2, h3]
theorem xh_set {G : xh_G} {X X' : xh_T} {k : Nat} {e : va_E} (h : k < sp_n) (h1 : xh_c G X' k (sp_lay k) = e) (h2 : ∀ j, j ≠ k → X'.1 j = X.1 j ∧ X'.2.1 j = X.2.1 j ∧ X'.2.2 j = X.2.2 j) : (xh_w G X).set k (G.1 k, e) = xh_w G X' := by
  apply List.ext_getElem?
  intro j
  have hlen : (xh_w G X).length = sp_n := by simp [xh_w]
  by_cases hj : j < sp_n
  · by_cases hk : j = k
    · subst hk
      rw [List.getElem?_set_self (by rw [hlen]; exact h), xh_at hj, h1]
    · rw [List.getElem?_set_ne (Ne.symm hk), xh_at hj, xh_at hj]
      obtain ⟨a, b, c⟩ := h2 j hk
      rw [xh_c_eq a b c]
  · rw [List.getElem?_eq_none (by rw [List.length_set, hlen]; omega), List.getElem?_eq_none (by simp [xh_w]; omega)]
theorem xh_dd {G : xh_G} {X : xh_T} {A : Nat → Prop} {sz : Nat} (hD : xh_D G) (hA : ∀ q, xh_A G sz q → A q) : va_D A (xh_w G X) := by
  refine ⟨fun i j p q hi hj e => ?_, fun k q hk => ?_⟩
  · obtain ⟨hi1, rfl⟩ := xh_get hi
    obtain ⟨hj1, rfl⟩ := xh_get hj
    exact hD i j hi1 hj1 e
  · obtain ⟨hk1, rfl⟩ := xh_get hk
    exact hA _ (Or.inl ⟨k, hk1, rfl⟩)
theorem xh_f_len {ad : Nat → Nat} {g : Nat → Int32} {fds : List (Option Nat)} : (xh_f ad g fds).length = fds.length := by simp [xh_f]
theorem xh_f_at {ad : Nat → Nat} {g : Nat → Int32} {fds : List (Option Nat)} {j : Nat} (h : j < fds.length) : (xh_f ad g fds)[j]? = some (xh_e ad (g j) fds[j]?) := by
  simp [xh_f, h]
theorem xh_f_int {ad : Nat → Nat} {g : Nat → Int32} {fds : List (Option Nat)} {j : Nat} (h : fds[j]? = some none) : (xh_f ad g fds)[j]? = some (.int (g j)) := by
  rw [xh_f_at (List.getElem?_eq_some_iff.mp h).1, h]
  rfl
theorem xh_f_ref {ad : Nat → Nat} {g : Nat → Int32} {fds : List (Option Nat)} {j t : Nat} (h : fds[j]? = some (some t)) : (xh_f ad g fds)[j]? = some (.ref (ad t)) := by
  rw [xh_f_at (List.getElem?_eq_some_iff.mp h).1, h]
  rfl
theorem xh_f_set {ad : Nat → Nat} {g : Nat → Int32} {fds : List (Option Nat)} {j : Nat} {v : Int32} (h : fds[j]? = some none) : (xh_f ad g fds).set j (.int v) = xh_f ad (upd g j v) fds := by
  have hj := (List.getElem?_eq_some_iff.mp h).1
  apply List.ext_getElem?
  intro i
  by_cases hi : i < fds.length
  · by_cases e : i = j
    · subst e
      rw [List.getElem?_set_self (by rw [xh_f_len]; exact hj), xh_f_int h, pk_us]
    · rw [List.getElem?_set_ne (Ne.symm e), xh_f_at hi, xh_f_at hi, pk_un e]
  · rw [List.getElem?_eq_none (by rw [List.length_set, xh_f_len]; omega), List.getElem?_eq_none (by rw [xh_f_len]; omega)]
theorem xh_same_i (X : xh_T) (k i : Nat) (v : Int32) : ∀ j, j ≠ k → (xh_i X k i v).1 j = X.1 j ∧ (xh_i X k i v).2.1 j = X.2.1 j ∧ (xh_i X k i v).2.2 j = X.2.2 j := fun _ h => ⟨va_up_ne _ _ h, rfl, rfl⟩
theorem xh_same_a (X : xh_T) (k : Nat) (f : Nat → Int32) : ∀ j, j ≠ k → (xh_a X k f).1 j = X.1 j ∧ (xh_a X k f).2.1 j = X.2.1 j ∧ (xh_a X k f).2.2 j = X.2.2 j := fun _ h => ⟨va_up_ne _ _ h, rfl, rfl⟩
theorem xh_same_r (X : xh_T) (k i t : Nat) : ∀ j, j ≠ k → (xh_r X k i t).1 j = X.1 j ∧ (xh_r X k i t).2.1 j = X.2.1 j ∧ (xh_r X k i t).2.2 j = X.2.2 j := fun _ h => ⟨rfl, va_up_ne _ _ h, rfl⟩
theorem xh_same_l (X : xh_T) (k i : Nat) (v : Int64) : ∀ j, j ≠ k → (xh_l X k i v).1 j = X.1 j ∧ (xh_l X k i v).2.1 j = X.2.1 j ∧ (xh_l X k i v).2.2 j = X.2.2 j := fun _ h => ⟨rfl, rfl, va_up_ne _ _ h⟩
/-- what stays the same through a method: the machine, the code, the words, the classes, the labels' addresses -/
def xh_C (p : Program) (s : State) (m : MethodId) (args : Array Value) (c : Code) (cc : ByteArray) (nL : Nat) (own : String) (D : va_G) (G : xh_G) (A : Nat → Prop) : Prop :=
  p.tables.exec = Jvm.exec ∧ c.code = cc ∧ c.maxLocals = nL ∧ s.vm.findClass own = some m.cls ∧ (∀ w ∈ sp_ws, w.before args s = true) ∧ va_K D sp_cl (xh_ty G) s ∧ xh_D G ∧ (∀ q, xh_A G s.heap.size q → A q)
/-- the judgement: if the pure program k ends with (r, X'), then the machine, at pc with locals ls, stack st and heap X, comes to an end with QQ r X' -/
def xh_J {ρ : Type} (p : Program) (l : Launch) (e : Env) (R : Room) (s : State) (m : MethodId) (args : Array Value) (below : List Frame) (meth : Method) (c : Code) (cells slots : Nat) (D : va_G) (G : xh_G) (A : Nat → Prop) (nL : Nat) (QQ : ρ → xh_T → State → Prop) (pc : Nat) (ls : List (Nat × Value)) (st : List Value) (X : xh_T) (k : Option (ρ × xh_T)) : Prop :=
  ∀ (r : ρ) (X' : xh_T), k = some (r, X') → ∀ (H : Heap) (locs : List Loc) (la : Array Slot), va_P D sp_cl (xh_w G X) H → va_S A s.heap H locs → lv_has la nL ls → W p l e R s m args below meth c H locs cells slots (QQ r X') (F0 m pc la st)
/-- a field's words: the class ci of sp_cl, its slot j, by the pool's place idx of own -/
def xh_F (own : String) (idx ci j : Nat) : Prop := ∃ (C : String) (T : u_T) (N : Nat), sp_cl[ci]? = some (C, T, N) ∧ j < N ∧ (∀ w ∈ u_ws C T N, w ∈ sp_ws) ∧ Cond.fieldLink own idx (T j).1 (T j).2.1 (T j).2.2.1 ∈ sp_ws
/-- .. to write an int there -/
def xh_Fp (own : String) (idx ci j : Nat) : Prop := ∃ (C : String) (T : u_T) (N : Nat) (t : Nat → FieldType), sp_cl[ci]? = some (C, T, N) ∧ j < N ∧ (∀ w ∈ u_ws C T N, w ∈ sp_ws) ∧ Cond.fieldLink own idx (T j).1 (T j).2.1 (T j).2.2.1 ∈ sp_ws ∧ (∀ k, k < N → parseFieldDescriptor (T k).2.2.1 = some (t k)) ∧ (∀ a, a < N → ∀ b, b < N → a ≠ b → (T a).2.1 ≠ (T b).2.1) ∧ (T j).2.2.2 = false ∧ t j = .int

section JR
variable {p : Program} {l : Launch} {e : Env} {R : Room} {s : State} {m : MethodId} {args : Array Value} {below : List Frame} {meth : Method} {c : Code} {cells slots : Nat} {cc : ByteArray} {nL : Nat} {own : String} {D : va_G} {G : xh_G} {A : Nat → Prop} {ρ : Type} {QQ : ρ → xh_T → State → Prop} {pc : Nat} {ls : List (Nat × Value)} {st : List Value} {X : xh_T} {k : Option (ρ × xh_T)}
theorem jr_iconst (hz : xh_C p s m args c cc nL own D G A) {n : Int} {v : Int32} (d : decode cc pc = .ok (.iconst n, 1)) (hv : Int32.ofInt n = v) (kk : xh_J p l e R s m args below meth c cells slots D G A nL QQ (pc + 1) ls (.int v :: st) X k) : xh_J p l e R s m args below meth c cells slots D G A nL QQ pc ls (st) X k := fun r X' hk H locs la hP hS hL => lv_iconst hz.1 hz.2.1 d hv (kk r X' hk H locs la hP hS hL)
theorem jr_bipush (hz : xh_C p s m args c cc nL own D G A) {n : Int} {v : Int32} (d : decode cc pc = .ok (.bipush n, 2)) (hv : (Int8.ofInt n).toInt32 = v) (kk : xh_J p l e R s m args below meth c cells slots D G A nL QQ (pc + 2) ls (.int v :: st) X k) : xh_J p l e R s m args below meth c cells slots D G A nL QQ pc ls (st) X k := fun r X' hk H locs la hP hS hL => lv_bipush hz.1 hz.2.1 d hv (kk r X' hk H locs la hP hS hL)
theorem jr_sipush (hz : xh_C p s m args c cc nL own D G A) {n : Int} {v : Int32} (d : decode cc pc = .ok (.sipush n, 3)) (hv : (Int16.ofInt n).toInt32 = v) (kk : xh_J p l e R s m args below meth c cells slots D G A nL QQ (pc + 3) ls (.int v :: st) X k) : xh_J p l e R s m args below meth c cells slots D G A nL QQ pc ls (st) X k := fun r X' hk H locs la hP hS hL => lv_sipush hz.1 hz.2.1 d hv (kk r X' hk H locs la hP hS hL)
theorem jr_lconst (hz : xh_C p s m args c cc nL own D G A) {n : Fin 2} {v : Int64} (d : decode cc pc = .ok (.lconst n, 1)) (hv : Int64.ofNat (n : Nat) = v) (kk : xh_J p l e R s m args below meth c cells slots D G A nL QQ (pc + 1) ls (.long v :: st) X k) : xh_J p l e R s m args below meth c cells slots D G A nL QQ pc ls (st) X k := fun r X' hk H locs la hP hS hL => lv_lconst hz.1 hz.2.1 d hv (kk r X' hk H locs la hP hS hL)
theorem jr_iload_n (hz : xh_C p s m args c cc nL own D G A) {k0 : Fin 4} {i : Nat} {x : Int32} (d : decode cc pc = .ok (.iload_n k0, 1)) (hi : (k0 : Nat) = i) (j : Nat) (hl : ls[j]? = some (i, .int x)) (kk : xh_J p l e R s m args below meth c cells slots D G A nL QQ (pc + 1) ls (.int x :: st) X k) : xh_J p l e R s m args below meth c cells slots D G A nL QQ pc ls st X k := fun r X' hk H locs la hP hS hL => lv_iload_n hz.1 hz.2.1 d hi (lv_at hL j hl) (kk r X' hk H locs la hP hS hL)
theorem jr_iload (hz : xh_C p s m args c cc nL own D G A) {i : Nat} {x : Int32} (d : decode cc pc = .ok (.iload i, 2)) (j : Nat) (hl : ls[j]? = some (i, .int x)) (kk : xh_J p l e R s m args below meth c cells slots D G A nL QQ (pc + 2) ls (.int x :: st) X k) : xh_J p l e R s m args below meth c cells slots D G A nL QQ pc ls st X k := fun r X' hk H locs la hP hS hL => lv_iload hz.1 hz.2.1 d (lv_at hL j hl) (kk r X' hk H locs la hP hS hL)
theorem jr_lload_n (hz : xh_C p s m args c cc nL own D G A) {k0 : Fin 4} {i : Nat} {x : Int64} (d : decode cc pc = .ok (.lload_n k0, 1)) (hi : (k0 : Nat) = i) (j : Nat) (hl : ls[j]? = some (i, .long x)) (kk : xh_J p l e R s m args below meth c cells slots D G A nL QQ (pc + 1) ls (.long x :: st) X k) : xh_J p l e R s m args below meth c cells slots D G A nL QQ pc ls st X k := fun r X' hk H locs la hP hS hL => lv_lload_n hz.1 hz.2.1 d hi (lv_at hL j hl) (kk r X' hk H locs la hP hS hL)
theorem jr_lload (hz : xh_C p s m args c cc nL own D G A) {i : Nat} {x : Int64} (d : decode cc pc = .ok (.lload i, 2)) (j : Nat) (hl : ls[j]? = some (i, .long x)) (kk : xh_J p l e R s m args below meth c cells slots D G A nL QQ (pc + 2) ls (.long x :: st) X k) : xh_J p l e R s m args below meth c cells slots D G A nL QQ pc ls st X k := fun r X' hk H locs la hP hS hL => lv_lload hz.1 hz.2.1 d (lv_at hL j hl) (kk r X' hk H locs la hP hS hL)
theorem jr_aload_n (hz : xh_C p s m args c cc nL own D G A) {k0 : Fin 4} {i : Nat} {x : Nat} (d : decode cc pc = .ok (.aload_n k0, 1)) (hi : (k0 : Nat) = i) (j : Nat) (hl : ls[j]? = some (i, .ref x)) (kk : xh_J p l e R s m args below meth c cells slots D G A nL QQ (pc + 1) ls (.ref x :: st) X k) : xh_J p l e R s m args below meth c cells slots D G A nL QQ pc ls st X k := fun r X' hk H locs la hP hS hL => lv_aload_n hz.1 hz.2.1 d hi (lv_at hL j hl) (kk r X' hk H locs la hP hS hL)
theorem jr_aload (hz : xh_C p s m args c cc nL own D G A) {i : Nat} {x : Nat} (d : decode cc pc = .ok (.aload i, 2)) (j : Nat) (hl : ls[j]? = some (i, .ref x)) (kk : xh_J p l e R s m args below meth c cells slots D G A nL QQ (pc + 2) ls (.ref x :: st) X k) : xh_J p l e R s m args below meth c cells slots D G A nL QQ pc ls st X k := fun r X' hk H locs la hP hS hL => lv_aload hz.1 hz.2.1 d (lv_at hL j hl) (kk r X' hk H locs la hP hS hL)
theorem jr_istore_n (hz : xh_C p s m args c cc nL own D G A) {k0 : Fin 4} {i : Nat} {x : Int32} {lf : List (Nat × Value)} {K : Int32 → Option (ρ × xh_T)} (d : decode cc pc = .ok (.istore_n k0, 1)) (hi : (k0 : Nat) = i) (hn : i < nL) (hl : ls.filter (fun q => !(q.1 == i) && !(q.1 + 1 == i && q.2.category == 2)) = lf) (kk : ∀ v : Int32, xh_J p l e R s m args below meth c cells slots D G A nL QQ (pc + 1) ((i, .int v) :: lf) st X (K v)) : xh_J p l e R s m args below meth c cells slots D G A nL QQ pc ls (.int x :: st) X (xh_n x K) := fun r X' hk H locs la hP hS hL => lv_istore_n hz.1 hz.2.1 d hi hL hn (by rw [hl]) (fun la' hL' => kk x r X' hk H locs la' hP hS hL')
theorem jr_istore (hz : xh_C p s m args c cc nL own D G A) {i : Nat} {x : Int32} {lf : List (Nat × Value)} {K : Int32 → Option (ρ × xh_T)} (d : decode cc pc = .ok (.istore i, 2)) (hn : i < nL) (hl : ls.filter (fun q => !(q.1 == i) && !(q.1 + 1 == i && q.2.category == 2)) = lf) (kk : ∀ v : Int32, xh_J p l e R s m args below meth c cells slots D G A nL QQ (pc + 2) ((i, .int v) :: lf) st X (K v)) : xh_J p l e R s m args below meth c cells slots D G A nL QQ pc ls (.int x :: st) X (xh_n x K) := fun r X' hk H locs la hP hS hL => lv_istore hz.1 hz.2.1 d hL hn (by rw [hl]) (fun la' hL' => kk x r X' hk H locs la' hP hS hL')
theorem jr_lstore_n (hz : xh_C p s m args c cc nL own D G A) {k0 : Fin 4} {i : Nat} {x : Int64} {lf : List (Nat × Value)} {K : Int64 → Option (ρ × xh_T)} (d : decode cc pc = .ok (.lstore_n k0, 1)) (hi : (k0 : Nat) = i) (hn : i + 1 < nL) (hl : ls.filter (fun q => !(q.1 == i) && (!(q.1 == i + 1) && !(q.1 + 1 == i && q.2.category == 2))) = lf) (kk : ∀ v : Int64, xh_J p l e R s m args below meth c cells slots D G A nL QQ (pc + 1) ((i, .long v) :: lf) st X (K v)) : xh_J p l e R s m args below meth c cells slots D G A nL QQ pc ls (.long x :: st) X (xh_n x K) := fun r X' hk H locs la hP hS hL => lv_lstore_n hz.1 hz.2.1 d hi hL hn (by rw [hl]) (fun la' hL' => kk x r X' hk H locs la' hP hS hL')
theorem jr_lstore (hz : xh_C p s m args c cc nL own D G A) {i : Nat} {x : Int64} {lf : List (Nat × Value)} {K : Int64 → Option (ρ × xh_T)} (d : decode cc pc = .ok (.lstore i, 2)) (hn : i + 1 < nL) (hl : ls.filter (fun q => !(q.1 == i) && (!(q.1 == i + 1) && !(q.1 + 1 == i && q.2.category == 2))) = lf) (kk : ∀ v : Int64, xh_J p l e R s m args below meth c cells slots D G A nL QQ (pc + 2) ((i, .long v) :: lf) st X (K v)) : xh_J p l e R s m args below meth c cells slots D G A nL QQ pc ls (.long x :: st) X (xh_n x K) := fun r X' hk H locs la hP hS hL => lv_lstore hz.1 hz.2.1 d hL hn (by rw [hl]) (fun la' hL' => kk x r X' hk H locs la' hP hS hL')
theorem jr_astore_n (hz : xh_C p s m args c cc nL own D G A) {k0 : Fin 4} {i : Nat} {x : Nat} {lf : List (Nat × Value)} {K : Nat → Option (ρ × xh_T)} (d : decode cc pc = .ok (.astore_n k0, 1)) (hi : (k0 : Nat) = i) (hn : i < nL) (hl : ls.filter (fun q => !(q.1 == i) && !(q.1 + 1 == i && q.2.category == 2)) = lf) (kk : ∀ v : Nat, xh_J p l e R s m args below meth c cells slots D G A nL QQ (pc + 1) ((i, .ref (G.1 v)) :: lf) st X (K v)) : xh_J p l e R s m args below meth c cells slots D G A nL QQ pc ls (.ref (G.1 x) :: st) X (xh_n x K) := fun r X' hk H locs la hP hS hL => lv_astore_n hz.1 hz.2.1 d hi hL hn (by rw [hl]) (fun la' hL' => kk x r X' hk H locs la' hP hS hL')
theorem jr_astore (hz : xh_C p s m args c cc nL own D G A) {i : Nat} {x : Nat} {lf : List (Nat × Value)} {K : Nat → Option (ρ × xh_T)} (d : decode cc pc = .ok (.astore i, 2)) (hn : i < nL) (hl : ls.filter (fun q => !(q.1 == i) && !(q.1 + 1 == i && q.2.category == 2)) = lf) (kk : ∀ v : Nat, xh_J p l e R s m args below meth c cells slots D G A nL QQ (pc + 2) ((i, .ref (G.1 v)) :: lf) st X (K v)) : xh_J p l e R s m args below meth c cells slots D G A nL QQ pc ls (.ref (G.1 x) :: st) X (xh_n x K) := fun r X' hk H locs la hP hS hL => lv_astore hz.1 hz.2.1 d hL hn (by rw [hl]) (fun la' hL' => kk x r X' hk H locs la' hP hS hL')
theorem jr_iinc (hz : xh_C p s m args c cc nL own D G A) {i : Nat} {n : Int} {x : Int32} {lf : List (Nat × Value)} {K : Int32 → Option (ρ × xh_T)} (d : decode cc pc = .ok (.iinc i n, 3)) (j : Nat) (hj : ls[j]? = some (i, .int x)) {w : Int32} (hw : Int32.ofInt n = w) (hn : i < nL) (hl : ls.filter (fun q => !(q.1 == i) && !(q.1 + 1 == i && q.2.category == 2)) = lf) (kk : ∀ v : Int32, xh_J p l e R s m args below meth c cells slots D G A nL QQ (pc + 3) ((i, .int v) :: lf) st X (K v)) : xh_J p l e R s m args below meth c cells slots D G A nL QQ pc ls st X (xh_n (x + w) K) := fun r X' hk H locs la hP hS hL => lv_iinc hz.1 hz.2.1 d hL hj rfl hn (by rw [hl, hw]) (fun la' hL' => kk (x + w) r X' hk H locs la' hP hS hL')
theorem jr_iadd (hz : xh_C p s m args c cc nL own D G A) {x y : Int32} (d : decode cc pc = .ok (.iadd, 1)) (kk : xh_J p l e R s m args below meth c cells slots D G A nL QQ (pc + 1) ls (.int (x + y) :: st) X k) : xh_J p l e R s m args below meth c cells slots D G A nL QQ pc ls (.int y :: .int x :: st) X k := fun r X' hk H locs la hP hS hL => lv_iadd hz.1 hz.2.1 d  (kk r X' hk H locs la hP hS hL)
theorem jr_isub (hz : xh_C p s m args c cc nL own D G A) {x y : Int32} (d : decode cc pc = .ok (.isub, 1)) (kk : xh_J p l e R s m args below meth c cells slots D G A nL QQ (pc + 1) ls (.int (x - y) :: st) X k) : xh_J p l e R s m args below meth c cells slots D G A nL QQ pc ls (.int y :: .int x :: st) X k := fun r X' hk H locs la hP hS hL => lv_isub hz.1 hz.2.1 d  (kk r X' hk H locs la hP hS hL)
theorem jr_imul (hz : xh_C p s m args c cc nL own D G A) {x y : Int32} (d : decode cc pc = .ok (.imul, 1)) (kk : xh_J p l e R s m args below meth c cells slots D G A nL QQ (pc + 1) ls (.int (x * y) :: st) X k) : xh_J p l e R s m args below meth c cells slots D G A nL QQ pc ls (.int y :: .int x :: st) X k := fun r X' hk H locs la hP hS hL => lv_imul hz.1 hz.2.1 d  (kk r X' hk H locs la hP hS hL)
theorem jr_iand (hz : xh_C p s m args c cc nL own D G A) {x y : Int32} (d : decode cc pc = .ok (.iand, 1)) (kk : xh_J p l e R s m args below meth c cells slots D G A nL QQ (pc + 1) ls (.int (x &&& y) :: st) X k) : xh_J p l e R s m args below meth c cells slots D G A nL QQ pc ls (.int y :: .int x :: st) X k := fun r X' hk H locs la hP hS hL => lv_iand hz.1 hz.2.1 d  (kk r X' hk H locs la hP hS hL)
theorem jr_ior (hz : xh_C p s m args c cc nL own D G A) {x y : Int32} (d : decode cc pc = .ok (.ior, 1)) (kk : xh_J p l e R s m args below meth c cells slots D G A nL QQ (pc + 1) ls (.int (x ||| y) :: st) X k) : xh_J p l e R s m args below meth c cells slots D G A nL QQ pc ls (.int y :: .int x :: st) X k := fun r X' hk H locs la hP hS hL => lv_ior hz.1 hz.2.1 d  (kk r X' hk H locs la hP hS hL)
theorem jr_ixor (hz : xh_C p s m args c cc nL own D G A) {x y : Int32} (d : decode cc pc = .ok (.ixor, 1)) (kk : xh_J p l e R s m args below meth c cells slots D G A nL QQ (pc + 1) ls (.int (x ^^^ y) :: st) X k) : xh_J p l e R s m args below meth c cells slots D G A nL QQ pc ls (.int y :: .int x :: st) X k := fun r X' hk H locs la hP hS hL => lv_ixor hz.1 hz.2.1 d  (kk r X' hk H locs la hP hS hL)
theorem jr_ladd (hz : xh_C p s m args c cc nL own D G A) {x y : Int64} (d : decode cc pc = .ok (.ladd, 1)) (kk : xh_J p l e R s m args below meth c cells slots D G A nL QQ (pc + 1) ls (.long (x + y) :: st) X k) : xh_J p l e R s m args below meth c cells slots D G A nL QQ pc ls (.long y :: .long x :: st) X k := fun r X' hk H locs la hP hS hL => lv_ladd hz.1 hz.2.1 d  (kk r X' hk H locs la hP hS hL)
theorem jr_lsub (hz : xh_C p s m args c cc nL own D G A) {x y : Int64} (d : decode cc pc = .ok (.lsub, 1)) (kk : xh_J p l e R s m args below meth c cells slots D G A nL QQ (pc + 1) ls (.long (x - y) :: st) X k) : xh_J p l e R s m args below meth c cells slots D G A nL QQ pc ls (.long y :: .long x :: st) X k := fun r X' hk H locs la hP hS hL => lv_lsub hz.1 hz.2.1 d  (kk r X' hk H locs la hP hS hL)
theorem jr_lmul (hz : xh_C p s m args c cc nL own D G A) {x y : Int64} (d : decode cc pc = .ok (.lmul, 1)) (kk : xh_J p l e R s m args below meth c cells slots D G A nL QQ (pc + 1) ls (.long (x * y) :: st) X k) : xh_J p l e R s m args below meth c cells slots D G A nL QQ pc ls (.long y :: .long x :: st) X k := fun r X' hk H locs la hP hS hL => lv_lmul hz.1 hz.2.1 d  (kk r X' hk H locs la hP hS hL)
theorem jr_land (hz : xh_C p s m args c cc nL own D G A) {x y : Int64} (d : decode cc pc = .ok (.land, 1)) (kk : xh_J p l e R s m args below meth c cells slots D G A nL QQ (pc + 1) ls (.long (x &&& y) :: st) X k) : xh_J p l e R s m args below meth c cells slots D G A nL QQ pc ls (.long y :: .long x :: st) X k := fun r X' hk H locs la hP hS hL => lv_land hz.1 hz.2.1 d  (kk r X' hk H locs la hP hS hL)
theorem jr_ineg (hz : xh_C p s m args c cc nL own D G A) {x : Int32} (d : decode cc pc = .ok (.ineg, 1)) (kk : xh_J p l e R s m args below meth c cells slots D G A nL QQ (pc + 1) ls (.int (-x) :: st) X k) : xh_J p l e R s m args below meth c cells slots D G A nL QQ pc ls (.int x :: st) X k := fun r X' hk H locs la hP hS hL => lv_ineg hz.1 hz.2.1 d  (kk r X' hk H locs la hP hS hL)
theorem jr_lneg (hz : xh_C p s m args c cc nL own D G A) {x : Int64} (d : decode cc pc = .ok (.lneg, 1)) (kk : xh_J p l e R s m args below meth c cells slots D G A nL QQ (pc + 1) ls (.long (-x) :: st) X k) : xh_J p l e R s m args below meth c cells slots D G A nL QQ pc ls (.long x :: st) X k := fun r X' hk H locs la hP hS hL => lv_lneg hz.1 hz.2.1 d  (kk r X' hk H locs la hP hS hL)
theorem jr_ishr (hz : xh_C p s m args c cc nL own D G A) {x y : Int32} (d : decode cc pc = .ok (.ishr, 1)) (kk : xh_J p l e R s m args below meth c cells slots D G A nL QQ (pc + 1) ls (.int (x >>> (y &&& 31)) :: st) X k) : xh_J p l e R s m args below meth c cells slots D G A nL QQ pc ls (.int y :: .int x :: st) X k := fun r X' hk H locs la hP hS hL => lv_ishr hz.1 hz.2.1 d  (kk r X' hk H locs la hP hS hL)
theorem jr_ishl (hz : xh_C p s m args c cc nL own D G A) {x y : Int32} (d : decode cc pc = .ok (.ishl, 1)) (kk : xh_J p l e R s m args below meth c cells slots D G A nL QQ (pc + 1) ls (.int (x <<< (y &&& 31)) :: st) X k) : xh_J p l e R s m args below meth c cells slots D G A nL QQ pc ls (.int y :: .int x :: st) X k := fun r X' hk H locs la hP hS hL => lv_ishl hz.1 hz.2.1 d  (kk r X' hk H locs la hP hS hL)
theorem jr_iushr (hz : xh_C p s m args c cc nL own D G A) {x y : Int32} (d : decode cc pc = .ok (.iushr, 1)) (kk : xh_J p l e R s m args below meth c cells slots D G A nL QQ (pc + 1) ls (.int (xh_ush x y) :: st) X k) : xh_J p l e R s m args below meth c cells slots D G A nL QQ pc ls (.int y :: .int x :: st) X k := fun r X' hk H locs la hP hS hL => lv_iushr hz.1 hz.2.1 d rfl (kk r X' hk H locs la hP hS hL)
theorem jr_lshr (hz : xh_C p s m args c cc nL own D G A) {x : Int64} {y : Int32} (d : decode cc pc = .ok (.lshr, 1)) (kk : xh_J p l e R s m args below meth c cells slots D G A nL QQ (pc + 1) ls (.long (x >>> (y.toInt64 &&& 63)) :: st) X k) : xh_J p l e R s m args below meth c cells slots D G A nL QQ pc ls (.int y :: .long x :: st) X k := fun r X' hk H locs la hP hS hL => lv_lshr hz.1 hz.2.1 d rfl (kk r X' hk H locs la hP hS hL)
theorem jr_i2l (hz : xh_C p s m args c cc nL own D G A) {x : Int32} (d : decode cc pc = .ok (.i2l, 1)) (kk : xh_J p l e R s m args below meth c cells slots D G A nL QQ (pc + 1) ls (.long x.toInt64 :: st) X k) : xh_J p l e R s m args below meth c cells slots D G A nL QQ pc ls (.int x :: st) X k := fun r X' hk H locs la hP hS hL => lv_i2l hz.1 hz.2.1 d rfl (kk r X' hk H locs la hP hS hL)
theorem jr_l2i (hz : xh_C p s m args c cc nL own D G A) {x : Int64} (d : decode cc pc = .ok (.l2i, 1)) (kk : xh_J p l e R s m args below meth c cells slots D G A nL QQ (pc + 1) ls (.int x.toInt32 :: st) X k) : xh_J p l e R s m args below meth c cells slots D G A nL QQ pc ls (.long x :: st) X k := fun r X' hk H locs la hP hS hL => lv_l2i hz.1 hz.2.1 d rfl (kk r X' hk H locs la hP hS hL)
theorem jr_lcmp (hz : xh_C p s m args c cc nL own D G A) {x y : Int64} (d : decode cc pc = .ok (.lcmp, 1)) (kk : xh_J p l e R s m args below meth c cells slots D G A nL QQ (pc + 1) ls (.int (lg_cmp x y) :: st) X k) : xh_J p l e R s m args below meth c cells slots D G A nL QQ pc ls (.long y :: .long x :: st) X k := fun r X' hk H locs la hP hS hL => W.lcmp hz.1 hz.2.1 d  (kk r X' hk H locs la hP hS hL)
theorem jr_dup (hz : xh_C p s m args c cc nL own D G A) {va : Value} (d : decode cc pc = .ok (.dup, 1)) (hva : va.category = 1) (kk : xh_J p l e R s m args below meth c cells slots D G A nL QQ (pc + 1) ls (va :: va :: st) X k) : xh_J p l e R s m args below meth c cells slots D G A nL QQ pc ls (va :: st) X k := fun r X' hk H locs la hP hS hL => lv_dup hz.1 hz.2.1 d hva (kk r X' hk H locs la hP hS hL)
theorem jr_pop (hz : xh_C p s m args c cc nL own D G A) {va : Value} (d : decode cc pc = .ok (.pop, 1)) (hva : va.category = 1) (kk : xh_J p l e R s m args below meth c cells slots D G A nL QQ (pc + 1) ls (st) X k) : xh_J p l e R s m args below meth c cells slots D G A nL QQ pc ls (va :: st) X k := fun r X' hk H locs la hP hS hL => lv_pop hz.1 hz.2.1 d hva (kk r X' hk H locs la hP hS hL)
theorem jr_dup_x1 (hz : xh_C p s m args c cc nL own D G A) {va vb : Value} (d : decode cc pc = .ok (.dup_x1, 1)) (hva : va.category = 1) (hvb : vb.category = 1) (kk : xh_J p l e R s m args below meth c cells slots D G A nL QQ (pc + 1) ls (va :: vb :: va :: st) X k) : xh_J p l e R s m args below meth c cells slots D G A nL QQ pc ls (va :: vb :: st) X k := fun r X' hk H locs la hP hS hL => lv_dup_x1 hz.1 hz.2.1 d hva hvb (kk r X' hk H locs la hP hS hL)
theorem jr_dup2_11 (hz : xh_C p s m args c cc nL own D G A) {va vb : Value} (d : decode cc pc = .ok (.dup2, 1)) (hva : va.category = 1) (hvb : vb.category = 1) (kk : xh_J p l e R s m args below meth c cells slots D G A nL QQ (pc + 1) ls (va :: vb :: va :: vb :: st) X k) : xh_J p l e R s m args below meth c cells slots D G A nL QQ pc ls (va :: vb :: st) X k := fun r X' hk H locs la hP hS hL => lv_dup2_11 hz.1 hz.2.1 d hva hvb (kk r X' hk H locs la hP hS hL)
theorem jr_dup2_2 (hz : xh_C p s m args c cc nL own D G A) {va : Value} (d : decode cc pc = .ok (.dup2, 1)) (hva : va.category = 2) (kk : xh_J p l e R s m args below meth c cells slots D G A nL QQ (pc + 1) ls (va :: va :: st) X k) : xh_J p l e R s m args below meth c cells slots D G A nL QQ pc ls (va :: st) X k := fun r X' hk H locs la hP hS hL => lv_dup2_2 hz.1 hz.2.1 d hva (kk r X' hk H locs la hP hS hL)
theorem jr_goto (hz : xh_C p s m args c cc nL own D G A) {off : Int} {tgt : Nat} (d : decode cc pc = .ok (.goto off, 3)) (ht : (pc : Int) + off = (tgt : Int)) (kk : xh_J p l e R s m args below meth c cells slots D G A nL QQ tgt ls st X k) : xh_J p l e R s m args below meth c cells slots D G A nL QQ pc ls st X k := fun r X' hk H locs la hP hS hL => lv_goto hz.1 hz.2.1 d ht (kk r X' hk H locs la hP hS hL)
theorem jr_ldc (hz : xh_C p s m args c cc nL own D G A) {idx : Nat} {v : Int32} (hw : Cond.constant own idx v ∈ sp_ws) (d : decode cc pc = .ok (.ldc idx, 2)) (kk : xh_J p l e R s m args below meth c cells slots D G A nL QQ (pc + 2) ls (.int v :: st) X k) : xh_J p l e R s m args below meth c cells slots D G A nL QQ pc ls st X k := fun r X' hk H locs la hP hS hL => lv_ldc hz.1 hz.2.1 hz.2.2.2.1 (hz.2.2.2.2.1 _ hw) d (kk r X' hk H locs la hP hS hL)
theorem jr_ldc2 (hz : xh_C p s m args c cc nL own D G A) {idx : Nat} {v : Int64} (hw : Cond.constantLong own idx v ∈ sp_ws) (d : decode cc pc = .ok (.ldc2_w idx, 3)) (kk : xh_J p l e R s m args below meth c cells slots D G A nL QQ (pc + 3) ls (.long v :: st) X k) : xh_J p l e R s m args below meth c cells slots D G A nL QQ pc ls st X k := fun r X' hk H locs la hP hS hL => lv_ldc2 hz.1 hz.2.1 hz.2.2.2.1 (hz.2.2.2.2.1 _ hw) d (kk r X' hk H locs la hP hS hL)
theorem jr_if_eq (hz : xh_C p s m args c cc nL own D G A) {x : Int32} {off : Int} {tgt : Nat} {k1 k2 : Option (ρ × xh_T)} (d : decode cc pc = .ok (.ifCond .eq off, 3)) (ht : (pc : Int) + off = (tgt : Int)) (kt : xh_J p l e R s m args below meth c cells slots D G A nL QQ tgt ls st X k1) (kf : xh_J p l e R s m args below meth c cells slots D G A nL QQ (pc + 3) ls st X k2) : xh_J p l e R s m args below meth c cells slots D G A nL QQ pc ls (.int x :: st) X (if x = 0 then k1 else k2) := fun r X' hk H locs la hP hS hL => lv_if_eq hz.1 hz.2.1 d ht (fun h => kt r X' (by rw [if_pos h] at hk; exact hk) H locs la hP hS hL) (fun h => kf r X' (by rw [if_neg h] at hk; exact hk) H locs la hP hS hL)
theorem jr_icmp_eq (hz : xh_C p s m args c cc nL own D G A) {x y : Int32} {off : Int} {tgt : Nat} {k1 k2 : Option (ρ × xh_T)} (d : decode cc pc = .ok (.if_icmp .eq off, 3)) (ht : (pc : Int) + off = (tgt : Int)) (kt : xh_J p l e R s m args below meth c cells slots D G A nL QQ tgt ls st X k1) (kf : xh_J p l e R s m args below meth c cells slots D G A nL QQ (pc + 3) ls st X k2) : xh_J p l e R s m args below meth c cells slots D G A nL QQ pc ls (.int y :: .int x :: st) X (if x = y then k1 else k2) := fun r X' hk H locs la hP hS hL => lv_icmp_eq hz.1 hz.2.1 d ht (fun h => kt r X' (by rw [if_pos h] at hk; exact hk) H locs la hP hS hL) (fun h => kf r X' (by rw [if_neg h] at hk; exact hk) H locs la hP hS hL)
theorem jr_if_ne (hz : xh_C p s m args c cc nL own D G A) {x : Int32} {off : Int} {tgt : Nat} {k1 k2 : Option (ρ × xh_T)} (d : decode cc pc = .ok (.ifCond .ne off, 3)) (ht : (pc : Int) + off = (tgt : Int)) (kt : xh_J p l e R s m args below meth c cells slots D G A nL QQ tgt ls st X k1) (kf : xh_J p l e R s m args below meth c cells slots D G A nL QQ (pc + 3) ls st X k2) : xh_J p l e R s m args below meth c cells slots D G A nL QQ pc ls (.int x :: st) X (if x = 0 then k2 else k1) := fun r X' hk H locs la hP hS hL => lv_if_ne hz.1 hz.2.1 d ht (fun h => kt r X' (by rw [if_neg h] at hk; exact hk) H locs la hP hS hL) (fun h => kf r X' (by rw [if_pos h] at hk; exact hk) H locs la hP hS hL)
theorem jr_icmp_ne (hz : xh_C p s m args c cc nL own D G A) {x y : Int32} {off : Int} {tgt : Nat} {k1 k2 : Option (ρ × xh_T)} (d : decode cc pc = .ok (.if_icmp .ne off, 3)) (ht : (pc : Int) + off = (tgt : Int)) (kt : xh_J p l e R s m args below meth c cells slots D G A nL QQ tgt ls st X k1) (kf : xh_J p l e R s m args below meth c cells slots D G A nL QQ (pc + 3) ls st X k2) : xh_J p l e R s m args below meth c cells slots D G A nL QQ pc ls (.int y :: .int x :: st) X (if x = y then k2 else k1) := fun r X' hk H locs la hP hS hL => lv_icmp_ne hz.1 hz.2.1 d ht (fun h => kt r X' (by rw [if_neg h] at hk; exact hk) H locs la hP hS hL) (fun h => kf r X' (by rw [if_pos h] at hk; exact hk) H locs la hP hS hL)
theorem jr_if_lt (hz : xh_C p s m args c cc nL own D G A) {x : Int32} {off : Int} {tgt : Nat} {k1 k2 : Option (ρ × xh_T)} (d : decode cc pc = .ok (.ifCond .lt off, 3)) (ht : (pc : Int) + off = (tgt : Int)) (kt : xh_J p l e R s m args below meth c cells slots D G A nL QQ tgt ls st X k1) (kf : xh_J p l e R s m args below meth c cells slots D G A nL QQ (pc + 3) ls st X k2) : xh_J p l e R s m args below meth c cells slots D G A nL QQ pc ls (.int x :: st) X (if x < 0 then k1 else k2) := fun r X' hk H locs la hP hS hL => lv_if_lt hz.1 hz.2.1 d ht (fun h => kt r X' (by rw [if_pos h] at hk; exact hk) H locs la hP hS hL) (fun h => kf r X' (by rw [if_neg h] at hk; exact hk) H locs la hP hS hL)
theorem jr_icmp_lt (hz : xh_C p s m args c cc nL own D G A) {x y : Int32} {off : Int} {tgt : Nat} {k1 k2 : Option (ρ × xh_T)} (d : decode cc pc = .ok (.if_icmp .lt off, 3)) (ht : (pc : Int) + off = (tgt : Int)) (kt : xh_J p l e R s m args below meth c cells slots D G A nL QQ tgt ls st X k1) (kf : xh_J p l e R s m args below meth c cells slots D G A nL QQ (pc + 3) ls st X k2) : xh_J p l e R s m args below meth c cells slots D G A nL QQ pc ls (.int y :: .int x :: st) X (if x < y then k1 else k2) := fun r X' hk H locs la hP hS hL => lv_icmp_lt hz.1 hz.2.1 d ht (fun h => kt r X' (by rw [if_pos h] at hk; exact hk) H locs la hP hS hL) (fun h => kf r X' (by rw [if_neg h] at hk; exact hk) H locs la hP hS hL)
theorem jr_if_ge (hz : xh_C p s m args c cc nL own D G A) {x : Int32} {off : Int} {tgt : Nat} {k1 k2 : Option (ρ × xh_T)} (d : decode cc pc = .ok (.ifCond .ge off, 3)) (ht : (pc : Int) + off = (tgt : Int)) (kt : xh_J p l e R s m args below meth c cells slots D G A nL QQ tgt ls st X k1) (kf : xh_J p l e R s m args below meth c cells slots D G A nL QQ (pc + 3) ls st X k2) : xh_J p l e R s m args below meth c cells slots D G A nL QQ pc ls (.int x :: st) X (if 0 ≤ x then k1 else k2) := fun r X' hk H locs la hP hS hL => lv_if_ge hz.1 hz.2.1 d ht (fun h => kt r X' (by rw [if_pos h] at hk; exact hk) H locs la hP hS hL) (fun h => kf r X' (by rw [if_neg h] at hk; exact hk) H locs la hP hS hL)
theorem jr_icmp_ge (hz : xh_C p s m args c cc nL own D G A) {x y : Int32} {off : Int} {tgt : Nat} {k1 k2 : Option (ρ × xh_T)} (d : decode cc pc = .ok (.if_icmp .ge off, 3)) (ht : (pc : Int) + off = (tgt : Int)) (kt : xh_J p l e R s m args below meth c cells slots D G A nL QQ tgt ls st X k1) (kf : xh_J p l e R s m args below meth c cells slots D G A nL QQ (pc + 3) ls st X k2) : xh_J p l e R s m args below meth c cells slots D G A nL QQ pc ls (.int y :: .int x :: st) X (if y ≤ x then k1 else k2) := fun r X' hk H locs la hP hS hL => lv_icmp_ge hz.1 hz.2.1 d ht (fun h => kt r X' (by rw [if_pos h] at hk; exact hk) H locs la hP hS hL) (fun h => kf r X' (by rw [if_neg h] at hk; exact hk) H locs la hP hS hL)
theorem jr_if_gt (hz : xh_C p s m args c cc nL own D G A) {x : Int32} {off : Int} {tgt : Nat} {k1 k2 : Option (ρ × xh_T)} (d : decode cc pc = .ok (.ifCond .gt off, 3)) (ht : (pc : Int) + off = (tgt : Int)) (kt : xh_J p l e R s m args below meth c cells slots D G A nL QQ tgt ls st X k1) (kf : xh_J p l e R s m args below meth c cells slots D G A nL QQ (pc + 3) ls st X k2) : xh_J p l e R s m args below meth c cells slots D G A nL QQ pc ls (.int x :: st) X (if 0 < x then k1 else k2) := fun r X' hk H locs la hP hS hL => lv_if_gt hz.1 hz.2.1 d ht (fun h => kt r X' (by rw [if_pos h] at hk; exact hk) H locs la hP hS hL) (fun h => kf r X' (by rw [if_neg h] at hk; exact hk) H locs la hP hS hL)
theorem jr_icmp_gt (hz : xh_C p s m args c cc nL own D G A) {x y : Int32} {off : Int} {tgt : Nat} {k1 k2 : Option (ρ × xh_T)} (d : decode cc pc = .ok (.if_icmp .gt off, 3)) (ht : (pc : Int) + off = (tgt : Int)) (kt : xh_J p l e R s m args below meth c cells slots D G A nL QQ tgt ls st X k1) (kf : xh_J p l e R s m args below meth c cells slots D G A nL QQ (pc + 3) ls st X k2) : xh_J p l e R s m args below meth c cells slots D G A nL QQ pc ls (.int y :: .int x :: st) X (if y < x then k1 else k2) := fun r X' hk H locs la hP hS hL => lv_icmp_gt hz.1 hz.2.1 d ht (fun h => kt r X' (by rw [if_pos h] at hk; exact hk) H locs la hP hS hL) (fun h => kf r X' (by rw [if_neg h] at hk; exact hk) H locs la hP hS hL)
theorem jr_if_le (hz : xh_C p s m args c cc nL own D G A) {x : Int32} {off : Int} {tgt : Nat} {k1 k2 : Option (ρ × xh_T)} (d : decode cc pc = .ok (.ifCond .le off, 3)) (ht : (pc : Int) + off = (tgt : Int)) (kt : xh_J p l e R s m args below meth c cells slots D G A nL QQ tgt ls st X k1) (kf : xh_J p l e R s m args below meth c cells slots D G A nL QQ (pc + 3) ls st X k2) : xh_J p l e R s m args below meth c cells slots D G A nL QQ pc ls (.int x :: st) X (if x ≤ 0 then k1 else k2) := fun r X' hk H locs la hP hS hL => lv_if_le hz.1 hz.2.1 d ht (fun h => kt r X' (by rw [if_pos h] at hk; exact hk) H locs la hP hS hL) (fun h => kf r X' (by rw [if_neg h] at hk; exact hk) H locs la hP hS hL)
theorem jr_icmp_le (hz : xh_C p s m args c cc nL own D G A) {x y : Int32} {off : Int} {tgt : Nat} {k1 k2 : Option (ρ × xh_T)} (d : decode cc pc = .ok (.if_icmp .le off, 3)) (ht : (pc : Int) + off = (tgt : Int)) (kt : xh_J p l e R s m args below meth c cells slots D G A nL QQ tgt ls st X k1) (kf : xh_J p l e R s m args below meth c cells slots D G A nL QQ (pc + 3) ls st X k2) : xh_J p l e R s m args below meth c cells slots D G A nL QQ pc ls (.int y :: .int x :: st) X (if x ≤ y then k1 else k2) := fun r X' hk H locs la hP hS hL => lv_icmp_le hz.1 hz.2.1 d ht (fun h => kt r X' (by rw [if_pos h] at hk; exact hk) H locs la hP hS hL) (fun h => kf r X' (by rw [if_neg h] at hk; exact hk) H locs la hP hS hL)
theorem jr_ite {q : Prop} {hq : Decidable q} {k1 k2 : Option (ρ × xh_T)} (kt : q → xh_J p l e R s m args below meth c cells slots D G A nL QQ pc ls st X k1) (kf : ¬ q → xh_J p l e R s m args below meth c cells slots D G A nL QQ pc ls st X k2) : xh_J p l e R s m args below meth c cells slots D G A nL QQ pc ls st X (if q then k1 else k2) := fun r X' hk => by
  by_cases h : q
  · rw [if_pos h] at hk; exact kt h r X' hk
  · rw [if_neg h] at hk; exact kf h r X' hk
theorem jr_lookup (hz : xh_C p s m args c cc nL own D G A) {dflt : Int} {ps : Array (Int × Int)} {len : Nat} {x : Int32} {off : Int} {tgt : Nat} (d : decode cc pc = .ok (.lookupswitch dflt ps, len)) (hp : (ps.toList.zip (ps.toList.drop 1)).all (fun (a, next) => a.1 < next.1) = true) (ho : Op.lookupswitch.offset ps.toList dflt x.toInt = off) (ht : (pc : Int) + off = (tgt : Int)) (kk : xh_J p l e R s m args below meth c cells slots D G A nL QQ tgt ls st X k) : xh_J p l e R s m args below meth c cells slots D G A nL QQ pc ls (.int x :: st) X k := fun r X' hk H locs la hP hS hL => lv_lookup hz.1 hz.2.1 d hp ho ht (kk r X' hk H locs la hP hS hL)
theorem jr_tableOut (hz : xh_C p s m args c cc nL own D G A) {dflt lo hi : Int} {offs : Array Int} {len : Nat} {x : Int32} {tgt : Nat} (d : decode cc pc = .ok (.tableswitch dflt lo hi offs, len)) (h : x.toInt < lo ∨ hi < x.toInt) (ht : (pc : Int) + dflt = (tgt : Int)) (kk : xh_J p l e R s m args below meth c cells slots D G A nL QQ tgt ls st X k) : xh_J p l e R s m args below meth c cells slots D G A nL QQ pc ls (.int x :: st) X k := fun r X' hk H locs la hP hS hL => lv_tableOut hz.1 hz.2.1 d h ht (kk r X' hk H locs la hP hS hL)
theorem jr_tableIn (hz : xh_C p s m args c cc nL own D G A) {dflt lo hi : Int} {offs : Array Int} {len : Nat} {x : Int32} {off : Int} {tgt : Nat} (d : decode cc pc = .ok (.tableswitch dflt lo hi offs, len)) (h1 : ¬ x.toInt < lo) (h2 : ¬ hi < x.toInt) (ho : offs[(x.toInt - lo).toNat]? = some off) (ht : (pc : Int) + off = (tgt : Int)) (kk : xh_J p l e R s m args below meth c cells slots D G A nL QQ tgt ls st X k) : xh_J p l e R s m args below meth c cells slots D G A nL QQ pc ls (.int x :: st) X k := fun r X' hk H locs la hP hS hL => lv_tableIn hz.1 hz.2.1 d h1 h2 ho ht (kk r X' hk H locs la hP hS hL)
/-- fewer locals, by their places -/
theorem jr_sub {ls' : List (Nat × Value)} (is : List Nat) (h : lv_pick ls is = ls') (kk : xh_J p l e R s m args below meth c cells slots D G A nL QQ pc ls' st X k) : xh_J p l e R s m args below meth c cells slots D G A nL QQ pc ls st X k := fun r X' hk H locs la hP hS hL => kk r X' hk H locs la hP hS (lv_sub hL is h)
theorem jr_none : xh_J p l e R s m args below meth c cells slots D G A nL QQ pc ls st X none := fun r X' hk => nomatch hk
theorem jr_k {b : Bool} (kk : b = true → xh_J p l e R s m args below meth c cells slots D G A nL QQ pc ls st X k) : xh_J p l e R s m args below meth c cells slots D G A nL QQ pc ls st X (xh_k b k) := fun r X' hk => by
  unfold xh_k at hk
  by_cases h : b = true
  · rw [if_pos h] at hk; exact kk h r X' hk
  · rw [if_neg h] at hk; cases hk
theorem jr_z {v : Int32} (kk : (v = 0 ∨ v = 1) → xh_J p l e R s m args below meth c cells slots D G A nL QQ pc ls st X k) : xh_J p l e R s m args below meth c cells slots D G A nL QQ pc ls st X (xh_z v k) := fun r X' hk => by
  unfold xh_z at hk
  by_cases h : v = 0 ∨ v = 1
  · rw [if_pos h] at hk; exact kk h r X' hk
  · rw [if_neg h] at hk; cases hk
theorem xh_o_in {β : Type} {i : Int32} {n : Nat} {K : Option β} {r : β} (h : xh_o i n K = some r) : vp_in i n ∧ K = some r := by
  unfold xh_o at h
  by_cases g : i < 0 ∨ n ≤ i.toNatClampNeg
  · rw [if_pos g] at h; cases h
  · rw [if_neg g] at h; exact ⟨g, h⟩
/-- a field: an int, a reference -/
theorem jr_geti (hz : xh_C p s m args c cc nL own D G A) {a ci j idx : Nat} {fds : List (Option Nat)} (hlt : a < sp_n) (hlay : sp_lay a = .inr (ci, fds)) (hj : fds[j]? = some none) (hF : xh_F own idx ci j) (d : decode cc pc = .ok (.getfield idx, 3)) (kk : xh_J p l e R s m args below meth c cells slots D G A nL QQ (pc + 3) ls (.int (X.1 a j) :: st) X k) : xh_J p l e R s m args below meth c cells slots D G A nL QQ pc ls (.ref (G.1 a) :: st) X k := fun r X' hk H locs la hP hS hL => by
  obtain ⟨C, T, N, hc, hjN, hin, hlink⟩ := hF
  have hat := xh_at (G := G) (X := X) hlt
  rw [hlay] at hat
  exact va_get (fs := xh_f G.1 (X.1 a) fds) hz.1 hz.2.1 hz.2.2.2.2.1 hin hz.2.2.2.1 hz.2.2.2.2.2.1 hP a hat hc j hjN (hz.2.2.2.2.1 _ hlink) (fun _ h => h) (xh_f_int hj) d (kk r X' hk H locs la hP hS hL)
theorem jr_getr (hz : xh_C p s m args c cc nL own D G A) {a ci j idx t : Nat} {fds : List (Option Nat)} (hlt : a < sp_n) (hlay : sp_lay a = .inr (ci, fds)) (hj : fds[j]? = some (some t)) (hF : xh_F own idx ci j) (d : decode cc pc = .ok (.getfield idx, 3)) (kk : xh_J p l e R s m args below meth c cells slots D G A nL QQ (pc + 3) ls (.ref (G.1 t) :: st) X k) : xh_J p l e R s m args below meth c cells slots D G A nL QQ pc ls (.ref (G.1 a) :: st) X k := fun r X' hk H locs la hP hS hL => by
  obtain ⟨C, T, N, hc, hjN, hin, hlink⟩ := hF
  have hat := xh_at (G := G) (X := X) hlt
  rw [hlay] at hat
  exact va_get (fs := xh_f G.1 (X.1 a) fds) hz.1 hz.2.1 hz.2.2.2.2.1 hin hz.2.2.2.1 hz.2.2.2.2.2.1 hP a hat hc j hjN (hz.2.2.2.2.1 _ hlink) (fun _ h => h) (xh_f_ref hj) d (kk r X' hk H locs la hP hS hL)
theorem jr_puti (hz : xh_C p s m args c cc nL own D G A) {a ci j idx : Nat} {v : Int32} {fds : List (Option Nat)} {K : xh_T → Option (ρ × xh_T)} (hlt : a < sp_n) (hlay : sp_lay a = .inr (ci, fds)) (hj : fds[j]? = some none) (hF : xh_Fp own idx ci j) (d : decode cc pc = .ok (.putfield idx, 3)) (kk : ∀ X1, xh_J p l e R s m args below meth c cells slots D G A nL QQ (pc + 3) ls st X1 (K X1)) : xh_J p l e R s m args below meth c cells slots D G A nL QQ pc ls (.int v :: .ref (G.1 a) :: st) X (xh_n (xh_i X a j v) K) := fun r X' hk H locs la hP hS hL => by
  obtain ⟨C, T, N, t, hc, hjN, hin, hlink, hty, hnm, hfin, htj⟩ := hF
  have hat := xh_at (G := G) (X := X) hlt
  rw [hlay] at hat
  have hd := hty j hjN
  rw [htj] at hd
  refine va_put (fs := xh_f G.1 (X.1 a) fds) (v := .int v) (ty := .int) hz.1 hz.2.1 hz.2.2.2.2.1 hin t hty hnm hz.2.2.2.1 hz.2.2.2.2.2.1 hP (xh_dd hz.2.2.2.2.2.2.1 hz.2.2.2.2.2.2.2) hS a hat hc j hjN (hz.2.2.2.2.1 _ hlink) (fun _ h => h) hfin hd rfl rfl (by rw [xh_f_len]; exact (List.getElem?_eq_some_iff.mp hj).1) d (fun H1 locs1 hP1 hD1 hS1 => ?_)
  rw [xh_f_set hj, xh_set hlt (X' := xh_i X a j v) (by rw [hlay]; show Sum.inr _ = _; rw [show (xh_i X a j v).1 a = upd (X.1 a) j v from va_up_self _ _ _]) (xh_same_i X a j v)] at hP1
  exact kk _ r X' hk H1 locs1 la hP1 hS1 hL

theorem jr_iald (hz : xh_C p s m args c cc nL own D G A) {a n : Nat} {i : Int32} {K : Option (ρ × xh_T)} (hlt : a < sp_n) (hlay : sp_lay a = .inl (0, n)) (d : decode cc pc = .ok (.iaload, 1)) (kk : xh_J p l e R s m args below meth c cells slots D G A nL QQ (pc + 1) ls (.int (X.1 a i.toNatClampNeg) :: st) X K) : xh_J p l e R s m args below meth c cells slots D G A nL QQ pc ls (.int i :: .ref (G.1 a) :: st) X (xh_o i n K) := fun r X' hk H locs la hP hS hL => by
  obtain ⟨hi, hk⟩ := xh_o_in hk
  have hat := xh_at (G := G) (X := X) hlt
  rw [hlay] at hat
  exact va_iald hz.1 hz.2.1 hz.2.2.2.2.2.1 hP a 0 hat rfl hi d (kk r X' hk H locs la hP hS hL)
theorem jr_zald (hz : xh_C p s m args c cc nL own D G A) {a n : Nat} {i : Int32} {K : Option (ρ × xh_T)} (hlt : a < sp_n) (hlay : sp_lay a = .inl (1, n)) (d : decode cc pc = .ok (.baload, 1)) (kk : xh_J p l e R s m args below meth c cells slots D G A nL QQ (pc + 1) ls (.int (X.1 a i.toNatClampNeg) :: st) X K) : xh_J p l e R s m args below meth c cells slots D G A nL QQ pc ls (.int i :: .ref (G.1 a) :: st) X (xh_o i n K) := fun r X' hk H locs la hP hS hL => by
  obtain ⟨hi, hk⟩ := xh_o_in hk
  have hat := xh_at (G := G) (X := X) hlt
  rw [hlay] at hat
  exact va_zald hz.1 hz.2.1 hz.2.2.2.2.2.1 hP a 1 hat rfl hi d (kk r X' hk H locs la hP hS hL)
theorem jr_lald (hz : xh_C p s m args c cc nL own D G A) {a n : Nat} {i : Int32} {K : Option (ρ × xh_T)} (hlt : a < sp_n) (hlay : sp_lay a = .inl (2, n)) (d : decode cc pc = .ok (.laload, 1)) (kk : xh_J p l e R s m args below meth c cells slots D G A nL QQ (pc + 1) ls (.long (X.2.2 a i.toNatClampNeg) :: st) X K) : xh_J p l e R s m args below meth c cells slots D G A nL QQ pc ls (.int i :: .ref (G.1 a) :: st) X (xh_o i n K) := fun r X' hk H locs la hP hS hL => by
  obtain ⟨hi, hk⟩ := xh_o_in hk
  have hat := xh_at (G := G) (X := X) hlt
  rw [hlay] at hat
  exact va_lald hz.1 hz.2.1 hz.2.2.2.2.2.1 hP a 2 hat rfl hi d (kk r X' hk H locs la hP hS hL)
theorem jr_aald (hz : xh_C p s m args c cc nL own D G A) {a n : Nat} {i : Int32} {K : Option (ρ × xh_T)} (hlt : a < sp_n) (hlay : sp_lay a = .inl (3, n)) (d : decode cc pc = .ok (.aaload, 1)) (kk : xh_J p l e R s m args below meth c cells slots D G A nL QQ (pc + 1) ls (.ref (G.1 (X.2.1 a i.toNatClampNeg)) :: st) X K) : xh_J p l e R s m args below meth c cells slots D G A nL QQ pc ls (.int i :: .ref (G.1 a) :: st) X (xh_o i n K) := fun r X' hk H locs la hP hS hL => by
  obtain ⟨hi, hk⟩ := xh_o_in hk
  have hat := xh_at (G := G) (X := X) hlt
  rw [hlay] at hat
  exact va_aldq hz.1 hz.2.1 hz.2.2.2.2.2.1 hP a 3 hat rfl hi d (kk r X' hk H locs la hP hS hL)
theorem jr_iast (hz : xh_C p s m args c cc nL own D G A) {a n : Nat} {i : Int32} {v : Int32} {K : xh_T → Option (ρ × xh_T)} (hlt : a < sp_n) (hlay : sp_lay a = .inl (0, n)) (d : decode cc pc = .ok (.iastore, 1)) (kk : ∀ X1, xh_J p l e R s m args below meth c cells slots D G A nL QQ (pc + 1) ls st X1 (K X1)) : xh_J p l e R s m args below meth c cells slots D G A nL QQ pc ls (.int v :: .int i :: .ref (G.1 a) :: st) X (xh_o i n (xh_n (xh_i X a i.toNatClampNeg v) K)) := fun r X' hk H locs la hP hS hL => by
  obtain ⟨hi, hk⟩ := xh_o_in hk
  have hat := xh_at (G := G) (X := X) hlt
  rw [hlay] at hat
  refine va_iast hz.1 hz.2.1 hz.2.2.2.2.2.1 hP (xh_dd hz.2.2.2.2.2.2.1 hz.2.2.2.2.2.2.2) hS a 0 hat rfl hi d (fun H1 locs1 hP1 hD1 hS1 => ?_)
  rw [xh_set hlt (X' := xh_i X a i.toNatClampNeg v) (by rw [hlay]; show Sum.inl _ = _; rw [show (xh_i X a i.toNatClampNeg v).1 a = upd (X.1 a) i.toNatClampNeg v from va_up_self _ _ _]) (xh_same_i X a _ _)] at hP1
  exact kk _ r X' hk H1 locs1 la hP1 hS1 hL
theorem jr_zast (hz : xh_C p s m args c cc nL own D G A) {a n : Nat} {i : Int32} {v : Int32} {K : xh_T → Option (ρ × xh_T)} (hlt : a < sp_n) (hlay : sp_lay a = .inl (1, n)) (d : decode cc pc = .ok (.bastore, 1)) (kk : ∀ X1, xh_J p l e R s m args below meth c cells slots D G A nL QQ (pc + 1) ls st X1 (K X1)) : xh_J p l e R s m args below meth c cells slots D G A nL QQ pc ls (.int v :: .int i :: .ref (G.1 a) :: st) X (xh_o i n (xh_n (xh_i X a i.toNatClampNeg (vp_nar .boolean v)) K)) := fun r X' hk H locs la hP hS hL => by
  obtain ⟨hi, hk⟩ := xh_o_in hk
  have hat := xh_at (G := G) (X := X) hlt
  rw [hlay] at hat
  refine va_zast hz.1 hz.2.1 hz.2.2.2.2.2.1 hP (xh_dd hz.2.2.2.2.2.2.1 hz.2.2.2.2.2.2.2) hS a 1 hat rfl hi d (fun H1 locs1 hP1 hD1 hS1 => ?_)
  rw [xh_set hlt (X' := xh_i X a i.toNatClampNeg (vp_nar .boolean v)) (by rw [hlay]; show Sum.inl _ = _; rw [show (xh_i X a i.toNatClampNeg (vp_nar .boolean v)).1 a = upd (X.1 a) i.toNatClampNeg (vp_nar .boolean v) from va_up_self _ _ _]) (xh_same_i X a _ _)] at hP1
  exact kk _ r X' hk H1 locs1 la hP1 hS1 hL
theorem jr_last (hz : xh_C p s m args c cc nL own D G A) {a n : Nat} {i : Int32} {v : Int64} {K : xh_T → Option (ρ × xh_T)} (hlt : a < sp_n) (hlay : sp_lay a = .inl (2, n)) (d : decode cc pc = .ok (.lastore, 1)) (kk : ∀ X1, xh_J p l e R s m args below meth c cells slots D G A nL QQ (pc + 1) ls st X1 (K X1)) : xh_J p l e R s m args below meth c cells slots D G A nL QQ pc ls (.long v :: .int i :: .ref (G.1 a) :: st) X (xh_o i n (xh_n (xh_l X a i.toNatClampNeg v) K)) := fun r X' hk H locs la hP hS hL => by
  obtain ⟨hi, hk⟩ := xh_o_in hk
  have hat := xh_at (G := G) (X := X) hlt
  rw [hlay] at hat
  refine va_last hz.1 hz.2.1 hz.2.2.2.2.2.1 hP (xh_dd hz.2.2.2.2.2.2.1 hz.2.2.2.2.2.2.2) hS a 2 hat rfl hi d (fun H1 locs1 hP1 hD1 hS1 => ?_)
  rw [xh_set hlt (X' := xh_l X a i.toNatClampNeg v) (by rw [hlay]; show Sum.inl _ = _; rw [show (xh_l X a i.toNatClampNeg v).2.2 a = vp_updL (X.2.2 a) i.toNatClampNeg v from va_up_self _ _ _]) (xh_same_l X a _ _)] at hP1
  exact kk _ r X' hk H1 locs1 la hP1 hS1 hL
theorem jr_aast (hz : xh_C p s m args c cc nL own D G A) {a n b : Nat} {i : Int32} {K : xh_T → Option (ρ × xh_T)} (hlt : a < sp_n) (hlay : sp_lay a = .inl (3, n)) (d : decode cc pc = .ok (.aastore, 1)) (kk : ∀ X1, xh_J p l e R s m args below meth c cells slots D G A nL QQ (pc + 1) ls st X1 (K X1)) : xh_J p l e R s m args below meth c cells slots D G A nL QQ pc ls (.ref (G.1 b) :: .int i :: .ref (G.1 a) :: st) X (xh_o i n (xh_k (sp_bs b) (xh_n (xh_r X a i.toNatClampNeg b) K))) := fun r X' hk H locs la hP hS hL => by
  obtain ⟨hi, hk⟩ := xh_o_in hk
  unfold xh_k at hk
  by_cases hb : sp_bs b = true
  · rw [if_pos hb] at hk
    have hat := xh_at (G := G) (X := X) hlt
    rw [hlay] at hat
    obtain ⟨hb1, hb2, -⟩ := sp_bs_of hb
    have hbt := xh_at (G := G) (X := X) (k := b) (by omega)
    rw [hb2] at hbt
    refine va_astq (r := sp_clBS) hz.1 hz.2.1 hz.2.2.2.2.2.1 hP (xh_dd hz.2.2.2.2.2.2.1 hz.2.2.2.2.2.2.2) hS a 3 b sp_ciBS hat rfl hbt rfl hi d (fun H1 locs1 hP1 hD1 hS1 => ?_)
    rw [xh_set hlt (X' := xh_r X a i.toNatClampNeg b) (by
      rw [hlay]; show Sum.inl _ = _
      rw [show (xh_r X a i.toNatClampNeg b).2.1 a = va_up (X.2.1 a) i.toNatClampNeg b from va_up_self _ _ _]
      have hfun : (fun j => some (G.1 (va_up (X.2.1 a) i.toNatClampNeg b j))) = va_up (fun j => some (G.1 (X.2.1 a j))) i.toNatClampNeg (some (G.1 b)) := by
        funext j
        by_cases hj : j = i.toNatClampNeg
        · subst hj; rw [va_up_self, va_up_self]
        · rw [va_up_ne _ _ hj, va_up_ne _ _ hj]
      rw [hfun]) (xh_same_r X a _ _)] at hP1
    exact kk _ r X' hk H1 locs1 la hP1 hS1 hL
  · rw [if_neg hb] at hk; cases hk
theorem jr_ileni (hz : xh_C p s m args c cc nL own D G A) {a n : Nat} (hlt : a < sp_n) (hlay : sp_lay a = .inl (0, n)) (d : decode cc pc = .ok (.arraylength, 1)) (kk : xh_J p l e R s m args below meth c cells slots D G A nL QQ (pc + 1) ls (.int (nI n) :: st) X k) : xh_J p l e R s m args below meth c cells slots D G A nL QQ pc ls (.ref (G.1 a) :: st) X k := fun r X' hk H locs la hP hS hL => by
  have hat := xh_at (G := G) (X := X) hlt
  rw [hlay] at hat
  exact va_alen hz.1 hz.2.1 hz.2.2.2.2.2.1 hP a 0 hat rfl rfl d (kk r X' hk H locs la hP hS hL)

end JR
end
section
/-! Contracts over the abstract heap: xh_M .. X k: if the pure program k ends with (r, X'), the method returns r and leaves X'. -/
def xh_W (D : va_G) (G : xh_G) (X : xh_T) (U : State) : Prop := va_P D sp_cl (xh_w G X) U.heap ∧ va_K D sp_cl (xh_ty G) U
def xh_Pc (D : va_G) (G : xh_G) (av : List Value) (X : xh_T) (sz : Nat) : Array Value → State → Prop := va_Pc av (fun U => U.heap.size = sz ∧ va_P D sp_cl (xh_w G X) U.heap ∧ va_K D sp_cl (xh_ty G) U)
def xh_Qi (D : va_G) (G : xh_G) (A : Nat → Prop) (r : Int32) (X' : xh_T) : Array Value → State → Outcome → State → Prop := va_Qi (fun r1 u => r1 = r ∧ u = X') (xh_W D G) A
def xh_Ql (D : va_G) (G : xh_G) (A : Nat → Prop) (r : Int64) (X' : xh_T) : Array Value → State → Outcome → State → Prop := va_Ql (fun r1 u => r1 = r ∧ u = X') (xh_W D G) A
def xh_Qv (D : va_G) (G : xh_G) (A : Nat → Prop) (_ : Unit) (X' : xh_T) : Array Value → State → Outcome → State → Prop := va_Qv (fun u => u = X') (xh_W D G) A
def xh_Qr (D : va_G) (G : xh_G) (A : Nat → Prop) (q : Nat) (X' : xh_T) : Array Value → State → Outcome → State → Prop := va_Qr (fun u => u = X') (fun u a t => a = G.1 q ∧ xh_W D G u t) A
def xh_M {ρ : Type} (Qx : va_G → xh_G → (Nat → Prop) → ρ → xh_T → Array Value → State → Outcome → State → Prop) (l : Launch) (D : va_G) (G : xh_G) (y : MethodName) (bytes : ByteArray) (maxL : Nat) (ret : Option FieldType) (rm : Room) (av : List Value) (X : xh_T) (k : Option (ρ × xh_T)) : Prop :=
  ∀ (r : ρ) (X' : xh_T), k = some (r, X') → ∀ sz : Nat, Met l y (Cond.code y bytes maxL ret :: sp_ws) rm (xh_Pc D G av X sz) (Qx D G (xh_A G sz) r X') 0 0 (xh_A G sz)
theorem xh_blind {D : va_G} {G : xh_G} {av : List Value} {X : xh_T} {sz : Nat} : FrameBlind (xh_Pc D G av X sz) := fun a U g mk q => by
  obtain ⟨q0, q1, qP, qK⟩ := q
  exact ⟨q0, q1, qP, va_K.moved (u := U) (U := U.calling g mk a) (Vm.Alike.refl U.vm) qK⟩
theorem xh_enter {ρ : Type} {Qx : va_G → xh_G → (Nat → Prop) → ρ → xh_T → Array Value → State → Outcome → State → Prop} {l : Launch} {D : va_G} {G : xh_G} {y : MethodName} {bytes : ByteArray} {maxL : Nat} {ret : Option FieldType} {rm : Room} {av : List Value} {X : xh_T} {k : Option (ρ × xh_T)} {ls : List (Nat × Value)} (hD : xh_D G) (hy : plainName y.cls = true) (hlen : (lg_sl av).length ≤ maxL) (hls : lv_args 0 av = ls)
    (body : ∀ (p : Program) (e : Env) (s : State) (m : MethodId) (args : Array Value) (below : List Frame) (meth : Method) (c : Code), xh_C p s m args c bytes maxL y.cls D G (xh_A G s.heap.size) → meth.sig.returnType = ret → meth.locks = false →
      xh_J p l e rm s m args below meth c 0 0 D G (xh_A G s.heap.size) maxL (fun r X' => MQ below (Qx D G (xh_A G s.heap.size) r X') args s 0 0 (xh_A G s.heap.size)) 0 ls [] X k) : xh_M Qx l D G y bytes maxL ret rm av X k := by
  intro r X' hk sz
  refine Met.ofW (cc := bytes) (maxL := maxL) (ret := ret) hy rfl ?_
  intro p e s m args below meth c s₁ B hml hv
  obtain ⟨rfl, hsz, hP, hK⟩ := hv
  subst hsz
  have hts := atoms_spec (ws := Cond.code y bytes maxL ret :: sp_ws) B.pre
  have hl := lv_entry av (n := maxL) hlen
  rw [lg_entry_eq]
  rw [hls] at hl
  exact body p e s m _ below meth c ⟨B.exec, B.bytes, hml, findClass_of_methodNamed B.named, fun w h => hts w (List.mem_cons_of_mem _ h), hK, hD, fun _ h => h⟩ B.returns B.notSynchronized r X' hk s.heap [] _ hP va_S.rf hl
/-- a call's words: an instance method, a static one -/
def xh_V (own : String) (idx ci : Nat) (y : MethodName) (bytes : ByteArray) (maxL : Nat) (ret : Option FieldType) (n : Nat) : Prop := Cond.code y bytes maxL ret ∈ sp_ws ∧ Cond.initialized y.cls ∈ sp_ws ∧ Cond.methodLink own idx y ∈ sp_ws ∧ (y.cls ≠ "java/lang/invoke/MethodHandle" ∧ y.cls ≠ "java/lang/invoke/VarHandle" ∧ (parseMethodDescriptor y.desc).map (fun d => d.parameters.length) = some n) ∧ Cond.instanceMethod y ∈ sp_ws ∧ Cond.selects y.cls y y ∈ sp_ws ∧ ∃ (T : u_T) (N : Nat), sp_cl[ci]? = some (y.cls, T, N)
def xh_S (own : String) (idx : Nat) (y : MethodName) (bytes : ByteArray) (maxL : Nat) (ret : Option FieldType) (n : Nat) : Prop := Cond.code y bytes maxL ret ∈ sp_ws ∧ Cond.initialized y.cls ∈ sp_ws ∧ Cond.methodLink own idx y ∈ sp_ws ∧ (y.cls ≠ "java/lang/invoke/MethodHandle" ∧ y.cls ≠ "java/lang/invoke/VarHandle" ∧ (parseMethodDescriptor y.desc).map (fun d => d.parameters.length) = some n) ∧ Cond.static y ∈ sp_ws
/-- the callee's room fits the caller's -/
def xh_R (rm R : Room) (maxL : Nat) : Prop := rm.cells = 0 ∧ rm.slots = 0 ∧ rm.frames + 1 ≤ R.frames ∧ 8 + (maxL + 11) + rm.locals ≤ R.locals
theorem xh_b_some {α β : Type} {o : Option (α × xh_T)} {K : α → xh_T → Option β} {z : β} (h : xh_b o K = some z) : ∃ r X, o = some (r, X) ∧ K r X = some z := by
  cases o with
  | none => cases h
  | some q => exact ⟨q.1, q.2, rfl, h⟩
theorem xh_k_t {β : Type} {b : Bool} {K : Option β} {z : β} (h : xh_k b K = some z) : b = true := by
  unfold xh_k at h
  by_cases g : b = true
  · exact g
  · rw [if_neg g] at h; cases h

section JC
variable {p : Program} {l : Launch} {e : Env} {R : Room} {s : State} {m : MethodId} {args : Array Value} {below : List Frame} {meth : Method} {c : Code} {cells slots : Nat} {cc : ByteArray} {nL : Nat} {own : String} {D : va_G} {G : xh_G} {A : Nat → Prop} {ρ : Type} {QQ : ρ → xh_T → State → Prop} {pc : Nat} {ls : List (Nat × Value)} {st : List Value} {X : xh_T} {k : Option (ρ × xh_T)}
theorem jr_callVi {idx n maxL : Nat} {ci a : Nat} {y : MethodName} {bytes : ByteArray} {ret : Option FieldType} {rm : Room} {As st0 : List Value} {kc : Option (Int32 × xh_T)} {K : Int32 → xh_T → Option (ρ × xh_T)} (hz : xh_C p s m args c cc nL own D G A) (hM : xh_M xh_Qi l D G y bytes maxL ret rm (.ref (G.1 a) :: As) X kc) (hv : ∀ z, kc = some z → a < sp_n ∧ ∃ fds, sp_lay a = .inr (ci, fds)) (hw : xh_V own idx ci y bytes maxL ret n) (hR : xh_R rm R maxL) (hcs : cells ≤ R.cells ∧ slots ≤ R.slots) (hn : As.length = n) (hst : st0 = As.reverse ++ .ref (G.1 a) :: st) (hcat : (st.map fun v => v.category).sum ≤ 8) (d : decode cc pc = .ok (.invokevirtual idx, 3)) (kk : ∀ r X1, xh_J p l e R s m args below meth c cells slots D G A nL QQ (pc + 3) ls (.int r :: st) X1 (K r X1)) : xh_J p l e R s m args below meth c cells slots D G A nL QQ pc ls st0 X (xh_b kc K) := fun r X' hk H locs la hP hS hL => by
  obtain ⟨r0, X0, hkc, hk⟩ := xh_b_some hk
  have hMm := hM r0 X0 hkc H.size
  have hA1 : ∀ q, xh_A G H.size q → A q := fun q h => hz.2.2.2.2.2.2.2 q (h.imp id (fun h => Nat.le_trans hS.1 h))
  have hts := hz.2.2.2.2.1
  have hK := hz.2.2.2.2.2.1
  obtain ⟨hlt, fds, hlay⟩ := hv _ hkc
  have hat := xh_at (G := G) (X := X) hlt
  rw [hlay] at hat
  obtain ⟨w1, w2, w3, w4, w5, w6, T, N, w7⟩ := hw
  refine va_calli (va_runV (C := y.cls) (As := As) (rest := st) ⟨hz.1, hz.2.1, hz.2.2.1, hz.2.2.2.1, hts⟩ hMm ⟨callB_of n hts (sp_good w1) rfl hR.1 hR.2.1 (hts _ w2) (hts _ w3) w4 hR.2.2, hts _ w5, hts _ w6⟩ ⟨xh_blind, va_recv hK hP w7 hat, fun U hU hW => ⟨rfl, by rw [hU], by rw [hU]; exact hP, va_K.moved hW.alike hK⟩⟩ rfl hn hL.1 hst (lv_room hcat) d ⟨hcs.1, hcs.2⟩) hS (fun q _ h => hA1 q h) hA1 (fun r1 u t H1 locs1 ht hvm hpost hB hsz hk1 hS1 => ?_)
  obtain ⟨rfl, rfl⟩ := hpost
  exact kk _ _ r X' hk H1 locs1 la (by rw [← ht]; exact hB.1) hS1 hL
theorem jr_callSi {idx n maxL : Nat} {y : MethodName} {bytes : ByteArray} {ret : Option FieldType} {rm : Room} {As st0 : List Value} {kc : Option (Int32 × xh_T)} {K : Int32 → xh_T → Option (ρ × xh_T)} (hz : xh_C p s m args c cc nL own D G A) (hM : xh_M xh_Qi l D G y bytes maxL ret rm As X kc) (hw : xh_S own idx y bytes maxL ret n) (hR : xh_R rm R maxL) (hcs : cells ≤ R.cells ∧ slots ≤ R.slots) (hn : As.length = n) (hst : st0 = As.reverse ++ st) (hcat : (st.map fun v => v.category).sum ≤ 8) (d : decode cc pc = .ok (.invokestatic idx, 3)) (kk : ∀ r X1, xh_J p l e R s m args below meth c cells slots D G A nL QQ (pc + 3) ls (.int r :: st) X1 (K r X1)) : xh_J p l e R s m args below meth c cells slots D G A nL QQ pc ls st0 X (xh_b kc K) := fun r X' hk H locs la hP hS hL => by
  obtain ⟨r0, X0, hkc, hk⟩ := xh_b_some hk
  have hMm := hM r0 X0 hkc H.size
  have hA1 : ∀ q, xh_A G H.size q → A q := fun q h => hz.2.2.2.2.2.2.2 q (h.imp id (fun h => Nat.le_trans hS.1 h))
  have hts := hz.2.2.2.2.1
  have hK := hz.2.2.2.2.2.1
  obtain ⟨w1, w2, w3, w4, w5⟩ := hw
  refine va_calli (va_runS (As := As) (rest := st) ⟨hz.1, hz.2.1, hz.2.2.1, hz.2.2.2.1, hts⟩ hMm ⟨callB_of n hts (sp_good w1) rfl hR.1 hR.2.1 (hts _ w2) (hts _ w3) w4 hR.2.2, hts _ w5⟩ ⟨xh_blind, fun U hU hW => ⟨rfl, by rw [hU], by rw [hU]; exact hP, va_K.moved hW.alike hK⟩⟩ rfl hn hL.1 hst (lv_room hcat) d ⟨hcs.1, hcs.2⟩) hS (fun q _ h => hA1 q h) hA1 (fun r1 u t H1 locs1 ht hvm hpost hB hsz hk1 hS1 => ?_)
  obtain ⟨rfl, rfl⟩ := hpost
  exact kk _ _ r X' hk H1 locs1 la (by rw [← ht]; exact hB.1) hS1 hL
theorem jr_callVl {idx n maxL : Nat} {ci a : Nat} {y : MethodName} {bytes : ByteArray} {ret : Option FieldType} {rm : Room} {As st0 : List Value} {kc : Option (Int64 × xh_T)} {K : Int64 → xh_T → Option (ρ × xh_T)} (hz : xh_C p s m args c cc nL own D G A) (hM : xh_M xh_Ql l D G y bytes maxL ret rm (.ref (G.1 a) :: As) X kc) (hv : ∀ z, kc = some z → a < sp_n ∧ ∃ fds, sp_lay a = .inr (ci, fds)) (hw : xh_V own idx ci y bytes maxL ret n) (hR : xh_R rm R maxL) (hcs : cells ≤ R.cells ∧ slots ≤ R.slots) (hn : As.length = n) (hst : st0 = As.reverse ++ .ref (G.1 a) :: st) (hcat : (st.map fun v => v.category).sum ≤ 8) (d : decode cc pc = .ok (.invokevirtual idx, 3)) (kk : ∀ r X1, xh_J p l e R s m args below meth c cells slots D G A nL QQ (pc + 3) ls (.long r :: st) X1 (K r X1)) : xh_J p l e R s m args below meth c cells slots D G A nL QQ pc ls st0 X (xh_b kc K) := fun r X' hk H locs la hP hS hL => by
  obtain ⟨r0, X0, hkc, hk⟩ := xh_b_some hk
  have hMm := hM r0 X0 hkc H.size
  have hA1 : ∀ q, xh_A G H.size q → A q := fun q h => hz.2.2.2.2.2.2.2 q (h.imp id (fun h => Nat.le_trans hS.1 h))
  have hts := hz.2.2.2.2.1
  have hK := hz.2.2.2.2.2.1
  obtain ⟨hlt, fds, hlay⟩ := hv _ hkc
  have hat := xh_at (G := G) (X := X) hlt
  rw [hlay] at hat
  obtain ⟨w1, w2, w3, w4, w5, w6, T, N, w7⟩ := hw
  refine va_calll (va_runV (C := y.cls) (As := As) (rest := st) ⟨hz.1, hz.2.1, hz.2.2.1, hz.2.2.2.1, hts⟩ hMm ⟨callB_of n hts (sp_good w1) rfl hR.1 hR.2.1 (hts _ w2) (hts _ w3) w4 hR.2.2, hts _ w5, hts _ w6⟩ ⟨xh_blind, va_recv hK hP w7 hat, fun U hU hW => ⟨rfl, by rw [hU], by rw [hU]; exact hP, va_K.moved hW.alike hK⟩⟩ rfl hn hL.1 hst (lv_room hcat) d ⟨hcs.1, hcs.2⟩) hS (fun q _ h => hA1 q h) hA1 (fun r1 u t H1 locs1 ht hvm hpost hB hsz hk1 hS1 => ?_)
  obtain ⟨rfl, rfl⟩ := hpost
  exact kk _ _ r X' hk H1 locs1 la (by rw [← ht]; exact hB.1) hS1 hL
theorem jr_callSl {idx n maxL : Nat} {y : MethodName} {bytes : ByteArray} {ret : Option FieldType} {rm : Room} {As st0 : List Value} {kc : Option (Int64 × xh_T)} {K : Int64 → xh_T → Option (ρ × xh_T)} (hz : xh_C p s m args c cc nL own D G A) (hM : xh_M xh_Ql l D G y bytes maxL ret rm As X kc) (hw : xh_S own idx y bytes maxL ret n) (hR : xh_R rm R maxL) (hcs : cells ≤ R.cells ∧ slots ≤ R.slots) (hn : As.length = n) (hst : st0 = As.reverse ++ st) (hcat : (st.map fun v => v.category).sum ≤ 8) (d : decode cc pc = .ok (.invokestatic idx, 3)) (kk : ∀ r X1, xh_J p l e R s m args below meth c cells slots D G A nL QQ (pc + 3) ls (.long r :: st) X1 (K r X1)) : xh_J p l e R s m args below meth c cells slots D G A nL QQ pc ls st0 X (xh_b kc K) := fun r X' hk H locs la hP hS hL => by
  obtain ⟨r0, X0, hkc, hk⟩ := xh_b_some hk
  have hMm := hM r0 X0 hkc H.size
  have hA1 : ∀ q, xh_A G H.size q → A q := fun q h => hz.2.2.2.2.2.2.2 q (h.imp id (fun h => Nat.le_trans hS.1 h))
  have hts := hz.2.2.2.2.1
  have hK := hz.2.2.2.2.2.1
  obtain ⟨w1, w2, w3, w4, w5⟩ := hw
  refine va_calll (va_runS (As := As) (rest := st) ⟨hz.1, hz.2.1, hz.2.2.1, hz.2.2.2.1, hts⟩ hMm ⟨callB_of n hts (sp_good w1) rfl hR.1 hR.2.1 (hts _ w2) (hts _ w3) w4 hR.2.2, hts _ w5⟩ ⟨xh_blind, fun U hU hW => ⟨rfl, by rw [hU], by rw [hU]; exact hP, va_K.moved hW.alike hK⟩⟩ rfl hn hL.1 hst (lv_room hcat) d ⟨hcs.1, hcs.2⟩) hS (fun q _ h => hA1 q h) hA1 (fun r1 u t H1 locs1 ht hvm hpost hB hsz hk1 hS1 => ?_)
  obtain ⟨rfl, rfl⟩ := hpost
  exact kk _ _ r X' hk H1 locs1 la (by rw [← ht]; exact hB.1) hS1 hL
theorem jr_callVv {idx n maxL : Nat} {ci a : Nat} {y : MethodName} {bytes : ByteArray} {ret : Option FieldType} {rm : Room} {As st0 : List Value} {kc : Option (Unit × xh_T)} {K : Unit → xh_T → Option (ρ × xh_T)} (hz : xh_C p s m args c cc nL own D G A) (hM : xh_M xh_Qv l D G y bytes maxL ret rm (.ref (G.1 a) :: As) X kc) (hv : ∀ z, kc = some z → a < sp_n ∧ ∃ fds, sp_lay a = .inr (ci, fds)) (hw : xh_V own idx ci y bytes maxL ret n) (hR : xh_R rm R maxL) (hcs : cells ≤ R.cells ∧ slots ≤ R.slots) (hn : As.length = n) (hst : st0 = As.reverse ++ .ref (G.1 a) :: st) (hcat : (st.map fun v => v.category).sum ≤ 8) (d : decode cc pc = .ok (.invokevirtual idx, 3)) (kk : ∀ r X1, xh_J p l e R s m args below meth c cells slots D G A nL QQ (pc + 3) ls (st) X1 (K r X1)) : xh_J p l e R s m args below meth c cells slots D G A nL QQ pc ls st0 X (xh_b kc K) := fun r X' hk H locs la hP hS hL => by
  obtain ⟨r0, X0, hkc, hk⟩ := xh_b_some hk
  have hMm := hM r0 X0 hkc H.size
  have hA1 : ∀ q, xh_A G H.size q → A q := fun q h => hz.2.2.2.2.2.2.2 q (h.imp id (fun h => Nat.le_trans hS.1 h))
  have hts := hz.2.2.2.2.1
  have hK := hz.2.2.2.2.2.1
  obtain ⟨hlt, fds, hlay⟩ := hv _ hkc
  have hat := xh_at (G := G) (X := X) hlt
  rw [hlay] at hat
  obtain ⟨w1, w2, w3, w4, w5, w6, T, N, w7⟩ := hw
  refine va_callv (va_runV (C := y.cls) (As := As) (rest := st) ⟨hz.1, hz.2.1, hz.2.2.1, hz.2.2.2.1, hts⟩ hMm ⟨callB_of n hts (sp_good w1) rfl hR.1 hR.2.1 (hts _ w2) (hts _ w3) w4 hR.2.2, hts _ w5, hts _ w6⟩ ⟨xh_blind, va_recv hK hP w7 hat, fun U hU hW => ⟨rfl, by rw [hU], by rw [hU]; exact hP, va_K.moved hW.alike hK⟩⟩ rfl hn hL.1 hst (lv_room hcat) d ⟨hcs.1, hcs.2⟩) hS (fun q _ h => hA1 q h) hA1 (fun u t H1 locs1 ht hvm hpost hB hsz hk1 hS1 => ?_)
  obtain rfl := hpost
  exact kk _ _ r X' hk H1 locs1 la (by rw [← ht]; exact hB.1) hS1 hL
theorem jr_callSv {idx n maxL : Nat} {y : MethodName} {bytes : ByteArray} {ret : Option FieldType} {rm : Room} {As st0 : List Value} {kc : Option (Unit × xh_T)} {K : Unit → xh_T → Option (ρ × xh_T)} (hz : xh_C p s m args c cc nL own D G A) (hM : xh_M xh_Qv l D G y bytes maxL ret rm As X kc) (hw : xh_S own idx y bytes maxL ret n) (hR : xh_R rm R maxL) (hcs : cells ≤ R.cells ∧ slots ≤ R.slots) (hn : As.length = n) (hst : st0 = As.reverse ++ st) (hcat : (st.map fun v => v.category).sum ≤ 8) (d : decode cc pc = .ok (.invokestatic idx, 3)) (kk : ∀ r X1, xh_J p l e R s m args below meth c cells slots D G A nL QQ (pc + 3) ls (st) X1 (K r X1)) : xh_J p l e R s m args below meth c cells slots D G A nL QQ pc ls st0 X (xh_b kc K) := fun r X' hk H locs la hP hS hL => by
  obtain ⟨r0, X0, hkc, hk⟩ := xh_b_some hk
  have hMm := hM r0 X0 hkc H.size
  have hA1 : ∀ q, xh_A G H.size q → A q := fun q h => hz.2.2.2.2.2.2.2 q (h.imp id (fun h => Nat.le_trans hS.1 h))
  have hts := hz.2.2.2.2.1
  have hK := hz.2.2.2.2.2.1
  obtain ⟨w1, w2, w3, w4, w5⟩ := hw
  refine va_callv (va_runS (As := As) (rest := st) ⟨hz.1, hz.2.1, hz.2.2.1, hz.2.2.2.1, hts⟩ hMm ⟨callB_of n hts (sp_good w1) rfl hR.1 hR.2.1 (hts _ w2) (hts _ w3) w4 hR.2.2, hts _ w5⟩ ⟨xh_blind, fun U hU hW => ⟨rfl, by rw [hU], by rw [hU]; exact hP, va_K.moved hW.alike hK⟩⟩ rfl hn hL.1 hst (lv_room hcat) d ⟨hcs.1, hcs.2⟩) hS (fun q _ h => hA1 q h) hA1 (fun u t H1 locs1 ht hvm hpost hB hsz hk1 hS1 => ?_)
  obtain rfl := hpost
  exact kk _ _ r X' hk H1 locs1 la (by rw [← ht]; exact hB.1) hS1 hL
theorem jr_callVr {idx n maxL : Nat} {ci a : Nat} {y : MethodName} {bytes : ByteArray} {ret : Option FieldType} {rm : Room} {As st0 : List Value} {kc : Option (Nat × xh_T)} {K : Nat → xh_T → Option (ρ × xh_T)} (hz : xh_C p s m args c cc nL own D G A) (hM : xh_M xh_Qr l D G y bytes maxL ret rm (.ref (G.1 a) :: As) X kc) (hv : ∀ z, kc = some z → a < sp_n ∧ ∃ fds, sp_lay a = .inr (ci, fds)) (hw : xh_V own idx ci y bytes maxL ret n) (hR : xh_R rm R maxL) (hcs : cells ≤ R.cells ∧ slots ≤ R.slots) (hn : As.length = n) (hst : st0 = As.reverse ++ .ref (G.1 a) :: st) (hcat : (st.map fun v => v.category).sum ≤ 8) (d : decode cc pc = .ok (.invokevirtual idx, 3)) (kk : ∀ r X1, xh_J p l e R s m args below meth c cells slots D G A nL QQ (pc + 3) ls (.ref (G.1 r) :: st) X1 (K r X1)) : xh_J p l e R s m args below meth c cells slots D G A nL QQ pc ls st0 X (xh_b kc K) := fun r X' hk H locs la hP hS hL => by
  obtain ⟨r0, X0, hkc, hk⟩ := xh_b_some hk
  have hMm := hM r0 X0 hkc H.size
  have hA1 : ∀ q, xh_A G H.size q → A q := fun q h => hz.2.2.2.2.2.2.2 q (h.imp id (fun h => Nat.le_trans hS.1 h))
  have hts := hz.2.2.2.2.1
  have hK := hz.2.2.2.2.2.1
  obtain ⟨hlt, fds, hlay⟩ := hv _ hkc
  have hat := xh_at (G := G) (X := X) hlt
  rw [hlay] at hat
  obtain ⟨w1, w2, w3, w4, w5, w6, T, N, w7⟩ := hw
  refine va_callr (va_runV (C := y.cls) (As := As) (rest := st) ⟨hz.1, hz.2.1, hz.2.2.1, hz.2.2.2.1, hts⟩ hMm ⟨callB_of n hts (sp_good w1) rfl hR.1 hR.2.1 (hts _ w2) (hts _ w3) w4 hR.2.2, hts _ w5, hts _ w6⟩ ⟨xh_blind, va_recv hK hP w7 hat, fun U hU hW => ⟨rfl, by rw [hU], by rw [hU]; exact hP, va_K.moved hW.alike hK⟩⟩ rfl hn hL.1 hst (lv_room hcat) d ⟨hcs.1, hcs.2⟩) hS (fun q _ h => hA1 q h) hA1 (fun u ra t H1 locs1 ht hvm hpost hB hsz hk1 hS1 => ?_)
  obtain rfl := hpost
  obtain ⟨rfl, hB⟩ := hB
  exact kk _ _ r X' hk H1 locs1 la (by rw [← ht]; exact hB.1) hS1 hL
theorem jr_callSr {idx n maxL : Nat} {y : MethodName} {bytes : ByteArray} {ret : Option FieldType} {rm : Room} {As st0 : List Value} {kc : Option (Nat × xh_T)} {K : Nat → xh_T → Option (ρ × xh_T)} (hz : xh_C p s m args c cc nL own D G A) (hM : xh_M xh_Qr l D G y bytes maxL ret rm As X kc) (hw : xh_S own idx y bytes maxL ret n) (hR : xh_R rm R maxL) (hcs : cells ≤ R.cells ∧ slots ≤ R.slots) (hn : As.length = n) (hst : st0 = As.reverse ++ st) (hcat : (st.map fun v => v.category).sum ≤ 8) (d : decode cc pc = .ok (.invokestatic idx, 3)) (kk : ∀ r X1, xh_J p l e R s m args below meth c cells slots D G A nL QQ (pc + 3) ls (.ref (G.1 r) :: st) X1 (K r X1)) : xh_J p l e R s m args below meth c cells slots D G A nL QQ pc ls st0 X (xh_b kc K) := fun r X' hk H locs la hP hS hL => by
  obtain ⟨r0, X0, hkc, hk⟩ := xh_b_some hk
  have hMm := hM r0 X0 hkc H.size
  have hA1 : ∀ q, xh_A G H.size q → A q := fun q h => hz.2.2.2.2.2.2.2 q (h.imp id (fun h => Nat.le_trans hS.1 h))
  have hts := hz.2.2.2.2.1
  have hK := hz.2.2.2.2.2.1
  obtain ⟨w1, w2, w3, w4, w5⟩ := hw
  refine va_callr (va_runS (As := As) (rest := st) ⟨hz.1, hz.2.1, hz.2.2.1, hz.2.2.2.1, hts⟩ hMm ⟨callB_of n hts (sp_good w1) rfl hR.1 hR.2.1 (hts _ w2) (hts _ w3) w4 hR.2.2, hts _ w5⟩ ⟨xh_blind, fun U hU hW => ⟨rfl, by rw [hU], by rw [hU]; exact hP, va_K.moved hW.alike hK⟩⟩ rfl hn hL.1 hst (lv_room hcat) d ⟨hcs.1, hcs.2⟩) hS (fun q _ h => hA1 q h) hA1 (fun u ra t H1 locs1 ht hvm hpost hB hsz hk1 hS1 => ?_)
  obtain rfl := hpost
  obtain ⟨rfl, hB⟩ := hB
  exact kk _ _ r X' hk H1 locs1 la (by rw [← ht]; exact hB.1) hS1 hL
theorem jr_iret {v : Int32} (hz : xh_C p s m args c cc nL own D G A) (hr : meth.sig.returnType = some .int) (hlk : meth.locks = false) (d : decode cc pc = .ok (.ireturn, 1)) : xh_J p l e R s m args below meth c 0 0 D G A nL (fun r X' => MQ below (xh_Qi D G A r X') args s 0 0 A) pc ls [.int v] X (some (v, X)) := fun r X' hk H locs la hP hS hL => by
  obtain ⟨rfl, rfl⟩ := Prod.mk.inj (Option.some.inj hk)
  exact W.iret hz.1 hz.2.1 hr (fun t ht hW => ⟨⟨v, X, rfl, ⟨rfl, rfl⟩, by rw [ht]; exact hP, va_K.moved hW.alike hz.2.2.2.2.2.1⟩, hS.F ht⟩) hS.2.2 d hlk
theorem jr_zret {v : Int32} (hz : xh_C p s m args c cc nL own D G A) (hr : meth.sig.returnType = some .boolean) (hlk : meth.locks = false) (hv : narrow .boolean (.int v) = .int v) (d : decode cc pc = .ok (.ireturn, 1)) : xh_J p l e R s m args below meth c 0 0 D G A nL (fun r X' => MQ below (xh_Qi D G A r X') args s 0 0 A) pc ls [.int v] X (some (v, X)) := fun r X' hk H locs la hP hS hL => by
  obtain ⟨rfl, rfl⟩ := Prod.mk.inj (Option.some.inj hk)
  exact W.zret hz.1 hz.2.1 hr hv (fun t ht hW => ⟨⟨v, X, rfl, ⟨rfl, rfl⟩, by rw [ht]; exact hP, va_K.moved hW.alike hz.2.2.2.2.2.1⟩, hS.F ht⟩) hS.2.2 d hlk
theorem xh_nar {v : Int32} (h : v = 0 ∨ v = 1) : narrow .boolean (.int v) = .int v := by
  rcases h with rfl | rfl <;> decide +kernel
theorem jr_lret {v : Int64} (hz : xh_C p s m args c cc nL own D G A) (hr : meth.sig.returnType = some .long) (hlk : meth.locks = false) (d : decode cc pc = .ok (.lreturn, 1)) : xh_J p l e R s m args below meth c 0 0 D G A nL (fun r X' => MQ below (xh_Ql D G A r X') args s 0 0 A) pc ls [.long v] X (some (v, X)) := fun r X' hk H locs la hP hS hL => by
  obtain ⟨rfl, rfl⟩ := Prod.mk.inj (Option.some.inj hk)
  exact W.lret hz.1 hz.2.1 hr (fun t ht hW => ⟨⟨v, X, rfl, ⟨rfl, rfl⟩, by rw [ht]; exact hP, va_K.moved hW.alike hz.2.2.2.2.2.1⟩, hS.F ht⟩) hS.2.2 d hlk
theorem jr_vret (hz : xh_C p s m args c cc nL own D G A) (hr : meth.sig.returnType = none) (hlk : meth.locks = false) (d : decode cc pc = .ok (.return_, 1)) : xh_J p l e R s m args below meth c 0 0 D G A nL (fun r X' => MQ below (xh_Qv D G A r X') args s 0 0 A) pc ls [] X (some ((), X)) := fun r X' hk H locs la hP hS hL => by
  obtain ⟨rfl, rfl⟩ := Prod.mk.inj (Option.some.inj hk)
  exact W.vret hz.1 hz.2.1 hr (fun t ht hW => ⟨⟨X, rfl, rfl, by rw [ht]; exact hP, va_K.moved hW.alike hz.2.2.2.2.2.1⟩, hS.F ht⟩) hS.2.2 d hlk
theorem jr_aret {q : Nat} {C : String} (hz : xh_C p s m args c cc nL own D G A) (hr : meth.sig.returnType = some (.object C)) (hlk : meth.locks = false) (d : decode cc pc = .ok (.areturn, 1)) : xh_J p l e R s m args below meth c 0 0 D G A nL (fun r X' => MQ below (xh_Qr D G A r X') args s 0 0 A) pc ls [.ref (G.1 q)] X (some (q, X)) := fun r X' hk H locs la hP hS hL => by
  obtain ⟨rfl, rfl⟩ := Prod.mk.inj (Option.some.inj hk)
  exact W.aret hz.1 hz.2.1 hr (Or.inl ⟨C, rfl⟩) (Or.inr ⟨_, rfl⟩) (fun t ht hW => ⟨⟨X, G.1 q, rfl, rfl, rfl, by rw [ht]; exact hP, va_K.moved hW.alike hz.2.2.2.2.2.1⟩, hS.F ht⟩) hS.2.2 d hlk

theorem jr_mmax {idx : Nat} {x y : Int32} (hz : xh_C p s m args c cc nL own D G A) (hl : Cond.methodLink own idx Lib.Math.max.name ∈ sp_ws) (hs : Cond.static Lib.Math.max.name ∈ sp_ws) (hi : Cond.initialized "java/lang/Math" ∈ sp_ws) (hc : Cond.code Lib.Math.max.name Lib.Math.max.code 2 (some .int) ∈ sp_ws) (hfr : 1 ≤ R.frames) (hlo : (st.map fun v => v.category).sum + 13 ≤ R.locals) (hcs : cells ≤ R.cells ∧ slots ≤ R.slots) (d : decode cc pc = .ok (.invokestatic idx, 3)) (kk : xh_J p l e R s m args below meth c cells slots D G A nL QQ (pc + 3) ls (.int (if x < y then y else x) :: st) X k) : xh_J p l e R s m args below meth c cells slots D G A nL QQ pc ls (.int y :: .int x :: st) X k := fun r X' hk H locs la hP hS hL => va_mmax hz.1 hz.2.1 (hz.2.2.1.trans hL.1.symm) hz.2.2.2.1 (hz.2.2.2.2.1 _ hl) (hz.2.2.2.2.1 _ hs) (hz.2.2.2.2.1 _ hi) (hz.2.2.2.2.1 _ hc) hfr hlo hcs.1 hcs.2 d (kk r X' hk H locs la hP hS hL)
theorem jr_mmin {idx : Nat} {x y : Int32} (hz : xh_C p s m args c cc nL own D G A) (hl : Cond.methodLink own idx Lib.Math.min.name ∈ sp_ws) (hs : Cond.static Lib.Math.min.name ∈ sp_ws) (hi : Cond.initialized "java/lang/Math" ∈ sp_ws) (hc : Cond.code Lib.Math.min.name Lib.Math.min.code 2 (some .int) ∈ sp_ws) (hfr : 1 ≤ R.frames) (hlo : (st.map fun v => v.category).sum + 13 ≤ R.locals) (hcs : cells ≤ R.cells ∧ slots ≤ R.slots) (d : decode cc pc = .ok (.invokestatic idx, 3)) (kk : xh_J p l e R s m args below meth c cells slots D G A nL QQ (pc + 3) ls (.int (if y < x then y else x) :: st) X k) : xh_J p l e R s m args below meth c cells slots D G A nL QQ pc ls (.int y :: .int x :: st) X k := fun r X' hk H locs la hP hS hL => va_mmin hz.1 hz.2.1 (hz.2.2.1.trans hL.1.symm) hz.2.2.2.1 (hz.2.2.2.2.1 _ hl) (hz.2.2.2.2.1 _ hs) (hz.2.2.2.2.1 _ hi) (hz.2.2.2.2.1 _ hc) hfr hlo hcs.1 hcs.2 d (kk r X' hk H locs la hP hS hL)
theorem jr_mmin_long {idx : Nat} {x y : Int64} (hz : xh_C p s m args c cc nL own D G A) (hl : Cond.methodLink own idx Lib.MathLoose.min_long.x ∈ sp_ws) (hs : Cond.static Lib.MathLoose.min_long.x ∈ sp_ws) (hi : Cond.initialized "java/lang/Math" ∈ sp_ws) (hc : Cond.code Lib.MathLoose.min_long.x Lib.MathLoose.min_long.code 4 (some .long) ∈ sp_ws) (hfr : 1 ≤ R.frames) (hlo : (st.map fun v => v.category).sum + 15 ≤ R.locals) (hcs : cells ≤ R.cells ∧ slots ≤ R.slots) (d : decode cc pc = .ok (.invokestatic idx, 3)) (kk : xh_J p l e R s m args below meth c cells slots D G A nL QQ (pc + 3) ls (.long (if y < x then y else x) :: st) X k) : xh_J p l e R s m args below meth c cells slots D G A nL QQ pc ls (.long y :: .long x :: st) X k := fun r X' hk H locs la hP hS hL => va_mmin_long hz.1 hz.2.1 (hz.2.2.1.trans hL.1.symm) hz.2.2.2.1 (hz.2.2.2.2.1 _ hl) (hz.2.2.2.2.1 _ hs) (hz.2.2.2.2.1 _ hi) (hz.2.2.2.2.1 _ hc) hfr hlo hcs.1 hcs.2 d (kk r X' hk H locs la hP hS hL)
theorem jr_mmax_long {idx : Nat} {x y : Int64} (hz : xh_C p s m args c cc nL own D G A) (hl : Cond.methodLink own idx Lib.MathLoose.max_long.x ∈ sp_ws) (hs : Cond.static Lib.MathLoose.max_long.x ∈ sp_ws) (hi : Cond.initialized "java/lang/Math" ∈ sp_ws) (hc : Cond.code Lib.MathLoose.max_long.x Lib.MathLoose.max_long.code 4 (some .long) ∈ sp_ws) (hfr : 1 ≤ R.frames) (hlo : (st.map fun v => v.category).sum + 15 ≤ R.locals) (hcs : cells ≤ R.cells ∧ slots ≤ R.slots) (d : decode cc pc = .ok (.invokestatic idx, 3)) (kk : xh_J p l e R s m args below meth c cells slots D G A nL QQ (pc + 3) ls (.long (if y < x then x else y) :: st) X k) : xh_J p l e R s m args below meth c cells slots D G A nL QQ pc ls (.long y :: .long x :: st) X k := fun r X' hk H locs la hP hS hL => va_mmax_long hz.1 hz.2.1 (hz.2.2.1.trans hL.1.symm) hz.2.2.2.1 (hz.2.2.2.2.1 _ hl) (hz.2.2.2.2.1 _ hs) (hz.2.2.2.2.1 _ hi) (hz.2.2.2.2.1 _ hc) hfr hlo hcs.1 hcs.2 d (kk r X' hk H locs la hP hS hL)
theorem jr_mabs_long {idx : Nat} {x : Int64} (hz : xh_C p s m args c cc nL own D G A) (hl : Cond.methodLink own idx Lib.MathLoose.abs_long.x ∈ sp_ws) (hs : Cond.static Lib.MathLoose.abs_long.x ∈ sp_ws) (hi : Cond.initialized "java/lang/Math" ∈ sp_ws) (hc : Cond.code Lib.MathLoose.abs_long.x Lib.MathLoose.abs_long.code 2 (some .long) ∈ sp_ws) (hfr : 1 ≤ R.frames) (hlo : (st.map fun v => v.category).sum + 13 ≤ R.locals) (hcs : cells ≤ R.cells ∧ slots ≤ R.slots) (d : decode cc pc = .ok (.invokestatic idx, 3)) (kk : xh_J p l e R s m args below meth c cells slots D G A nL QQ (pc + 3) ls (.long (if 0 < x then x else -x) :: st) X k) : xh_J p l e R s m args below meth c cells slots D G A nL QQ pc ls (.long x :: st) X k := fun r X' hk H locs la hP hS hL => va_mabs_long hz.1 hz.2.1 (hz.2.2.1.trans hL.1.symm) hz.2.2.2.1 (hz.2.2.2.2.1 _ hl) (hz.2.2.2.2.1 _ hs) (hz.2.2.2.2.1 _ hi) (hz.2.2.2.2.1 _ hc) hfr hlo hcs.1 hcs.2 d (kk r X' hk H locs la hP hS hL)
theorem xh_cp_in {β : Type} {sp dp n : Int32} {n0 n1 : Nat} {K : Option β} {z : β} (h : xh_cp sp dp n n0 n1 K = some z) : ¬ sp < 0 ∧ ¬ dp < 0 ∧ ¬ n < 0 ∧ sp.toNatClampNeg + n.toNatClampNeg ≤ n0 ∧ dp.toNatClampNeg + n.toNatClampNeg ≤ n1 ∧ K = some z := by
  unfold xh_cp at h
  by_cases g : sp < 0 ∨ dp < 0 ∨ n < 0 ∨ n0 < sp.toNatClampNeg + n.toNatClampNeg ∨ n1 < dp.toNatClampNeg + n.toNatClampNeg
  · rw [if_pos g] at h; cases h
  · rw [if_neg g] at h
    exact ⟨fun q => g (Or.inl q), fun q => g (Or.inr (Or.inl q)), fun q => g (Or.inr (Or.inr (Or.inl q))), Nat.le_of_not_lt (fun q => g (Or.inr (Or.inr (Or.inr (Or.inl q))))), Nat.le_of_not_lt (fun q => g (Or.inr (Or.inr (Or.inr (Or.inr q))))), h⟩
theorem jr_copyi {idx a0 a1 n0 n1 : Nat} {sp dp n : Int32} {K : xh_T → Option (ρ × xh_T)} (hz : xh_C p s m args c cc nL own D G A) (hl : Cond.methodLink own idx arraycopyName ∈ sp_ws) (hna : Cond.native arraycopyName ∈ sp_ws) (hs : Cond.static arraycopyName ∈ sp_ws) (hi : Cond.initialized "java/lang/System" ∈ sp_ws) (hlt0 : a0 < sp_n) (hlay0 : sp_lay a0 = .inl (0, n0)) (hlt1 : a1 < sp_n) (hlay1 : sp_lay a1 = .inl (0, n1)) (hfr : 1 ≤ R.frames) (hlo : (st.map fun v => v.category).sum + (nativeFrameWords "java/lang/System" "arraycopy" 5 + 11) ≤ R.locals) (d : decode cc pc = .ok (.invokestatic idx, 3)) (kk : ∀ X1, xh_J p l e R s m args below meth c cells slots D G A nL QQ (pc + 3) ls st X1 (K X1)) : xh_J p l e R s m args below meth c cells slots D G A nL QQ pc ls (.int n :: .int dp :: .ref (G.1 a1) :: .int sp :: .ref (G.1 a0) :: st) X (xh_cp sp dp n n0 n1 (xh_n (xh_a X a1 (va_cpy (X.1 a0) (X.1 a1) sp.toNatClampNeg dp.toNatClampNeg n.toNatClampNeg)) K)) := fun r X' hk H locs la hP hS hL => by
  obtain ⟨h1, h2, h3, h4, h5, hk⟩ := xh_cp_in hk
  have hat0 := xh_at (G := G) (X := X) hlt0
  rw [hlay0] at hat0
  have hat1 := xh_at (G := G) (X := X) hlt1
  rw [hlay1] at hat1
  refine va_copyi (ty := .int) hz.1 hz.2.1 (hz.2.2.1.trans hL.1.symm) hz.2.2.2.1 (hz.2.2.2.2.1 _ hl) (hz.2.2.2.2.1 _ hna) (hz.2.2.2.2.1 _ hs) (hz.2.2.2.2.1 _ hi) hz.2.2.2.2.2.1 hP (xh_dd hz.2.2.2.2.2.2.1 hz.2.2.2.2.2.2.2) hS a0 a1 0 0 hat0 hat1 rfl rfl rfl h1 h2 h3 h4 h5 (fun _ _ => rfl) hfr hlo d (fun H1 locs1 hP1 hD1 hS1 => ?_)
  rw [xh_set hlt1 (X' := xh_a X a1 (va_cpy (X.1 a0) (X.1 a1) sp.toNatClampNeg dp.toNatClampNeg n.toNatClampNeg)) (by rw [hlay1]; show Sum.inl _ = _; rw [show (xh_a X a1 (va_cpy (X.1 a0) (X.1 a1) sp.toNatClampNeg dp.toNatClampNeg n.toNatClampNeg)).1 a1 = va_cpy (X.1 a0) (X.1 a1) sp.toNatClampNeg dp.toNatClampNeg n.toNatClampNeg from va_up_self _ _ _]) (xh_same_a X a1 _)] at hP1
  exact kk _ r X' hk H1 locs1 la hP1 hS1 hL

end JC
end
section
/-! printed by wip/whole/gen_walks.py -/
theorem wa_mmin_static : Cond.static Lib.Math.min.name ∈ sp_ws := (sp_tb (List.mem_of_getElem? (i := 385) (by decide +kernel)))
theorem wa_mmin_code : Cond.code Lib.Math.min.name Lib.Math.min.code 2 (some .int) ∈ sp_ws := (sp_tb (List.mem_of_getElem? (i := 386) (by decide +kernel)))
theorem wa_mmax_static : Cond.static Lib.Math.max.name ∈ sp_ws := (sp_tb (List.mem_of_getElem? (i := 310) (by decide +kernel)))
theorem wa_mmax_code : Cond.code Lib.Math.max.name Lib.Math.max.code 2 (some .int) ∈ sp_ws := (sp_tb (List.mem_of_getElem? (i := 311) (by decide +kernel)))
theorem wa_mabs_long_static : Cond.static Lib.MathLoose.abs_long.x ∈ sp_ws := (sp_tb (List.mem_of_getElem? (i := 269) (by decide +kernel)))
theorem wa_mabs_long_code : Cond.code Lib.MathLoose.abs_long.x Lib.MathLoose.abs_long.code 2 (some .long) ∈ sp_ws := (sp_tb (List.mem_of_getElem? (i := 270) (by decide +kernel)))
theorem wa_mmin_long_static : Cond.static Lib.MathLoose.min_long.x ∈ sp_ws := (sp_tb (List.mem_of_getElem? (i := 371) (by decide +kernel)))
theorem wa_mmin_long_code : Cond.code Lib.MathLoose.min_long.x Lib.MathLoose.min_long.code 4 (some .long) ∈ sp_ws := (sp_tb (List.mem_of_getElem? (i := 372) (by decide +kernel)))
theorem wa_mmax_long_static : Cond.static Lib.MathLoose.max_long.x ∈ sp_ws := (sp_tb (List.mem_of_getElem? (i := 374) (by decide +kernel)))
theorem wa_mmax_long_code : Cond.code Lib.MathLoose.max_long.x Lib.MathLoose.max_long.code 4 (some .long) ∈ sp_ws := (sp_tb (List.mem_of_getElem? (i := 375) (by decide +kernel)))
theorem wa_init_Math : Cond.initialized "java/lang/Math" ∈ sp_ws := (sp_tb (List.mem_of_getElem? (i := 10) (by decide +kernel)))
theorem wa_init_System : Cond.initialized "java/lang/System" ∈ sp_ws := (sp_tb (List.mem_of_getElem? (i := 9) (by decide +kernel)))
theorem wa_copy_native : Cond.native arraycopyName ∈ sp_ws := (sp_tb (List.mem_of_getElem? (i := 263) (by decide +kernel)))
theorem wa_copy_static : Cond.static arraycopyName ∈ sp_ws := (sp_tb (List.mem_of_getElem? (i := 262) (by decide +kernel)))
theorem d_BS_size_0 : decode b_BS_size 0 = .ok (.aload_n 0, 1) := by decide +kernel
theorem d_BS_size_1 : decode b_BS_size 1 = .ok (.getfield 15, 3) := by decide +kernel
theorem d_BS_size_4 : decode b_BS_size 4 = .ok (.ireturn, 1) := by decide +kernel
theorem wf_BS_15 : xh_F "SpendScript$ByteString" 15 0 1 := ⟨R_BS, F_BS, 2, rfl, by decide, iw_BS, (sp_tb (List.mem_of_getElem? (i := 26) (by decide +kernel)))⟩
abbrev rm_BS_size : Room := { frames := 0, cells := 0, slots := 0, locals := 0 }
def fx_BS_size (q : Nat) (X : xh_T) : Option (Int32 × xh_T) :=
  xh_k (sp_bs q) (
  some (X.1 q 1, X))
set_option maxRecDepth 100000 in
set_option maxHeartbeats 4000000 in
theorem cx_BS_size (l : Launch) (D : va_G) (G : xh_G) (hD : xh_D G) (q : Nat) (X : xh_T) : xh_M xh_Qi l D G y_BS_size b_BS_size 1 (some .int) rm_BS_size [.ref (G.1 q)] X (fx_BS_size q X) := by
  refine xh_enter (ls := [(0, .ref (G.1 q))]) hD (by decide +kernel) (Nat.le_of_ble_eq_true rfl) rfl ?_
  intro p e s m args below meth c hz hr hlk
  unfold fx_BS_size
  refine jr_k (fun hq => ?_)
  refine jr_aload_n hz d_BS_size_0 rfl 0 rfl ?_
  refine jr_geti (j := 1) hz (sp_bs_lt hq) (sp_bs_of hq).2.1 rfl wf_BS_15 d_BS_size_1 ?_
  exact jr_iret hz hr hlk d_BS_size_4
theorem d_BS_byteAt_0 : decode b_BS_byteAt 0 = .ok (.iload_n 1, 1) := by decide +kernel
theorem d_BS_byteAt_1 : decode b_BS_byteAt 1 = .ok (.ifCond .lt 20, 3) := by decide +kernel
theorem d_BS_byteAt_4 : decode b_BS_byteAt 4 = .ok (.iload_n 1, 1) := by decide +kernel
theorem d_BS_byteAt_5 : decode b_BS_byteAt 5 = .ok (.aload_n 0, 1) := by decide +kernel
theorem d_BS_byteAt_6 : decode b_BS_byteAt 6 = .ok (.getfield 15, 3) := by decide +kernel
theorem d_BS_byteAt_9 : decode b_BS_byteAt 9 = .ok (.if_icmp .ge 12, 3) := by decide +kernel
theorem d_BS_byteAt_12 : decode b_BS_byteAt 12 = .ok (.aload_n 0, 1) := by decide +kernel
theorem d_BS_byteAt_13 : decode b_BS_byteAt 13 = .ok (.getfield 9, 3) := by decide +kernel
theorem d_BS_byteAt_16 : decode b_BS_byteAt 16 = .ok (.iload_n 1, 1) := by decide +kernel
theorem d_BS_byteAt_17 : decode b_BS_byteAt 17 = .ok (.iaload, 1) := by decide +kernel
theorem d_BS_byteAt_18 : decode b_BS_byteAt 18 = .ok (.goto 4, 3) := by decide +kernel
theorem d_BS_byteAt_21 : decode b_BS_byteAt 21 = .ok (.iconst (-1), 1) := by decide +kernel
theorem d_BS_byteAt_22 : decode b_BS_byteAt 22 = .ok (.ireturn, 1) := by decide +kernel
theorem wf_BS_9 : xh_F "SpendScript$ByteString" 9 0 0 := ⟨R_BS, F_BS, 2, rfl, by decide, iw_BS, (sp_tb (List.mem_of_getElem? (i := 25) (by decide +kernel)))⟩
abbrev rm_BS_byteAt : Room := { frames := 0, cells := 0, slots := 0, locals := 0 }
def fx_BS_byteAt (q : Nat) (p1 : Int32) (X : xh_T) : Option (Int32 × xh_T) :=
  xh_k (sp_bs q) (
  if p1 < 0 then
  some ((-1), X)
  else if X.1 q 1 ≤ p1 then
  some ((-1), X)
  else xh_o p1 (sp_len (q + 1)) (some ((X.1 (q + 1) p1.toNatClampNeg), X)))
set_option maxRecDepth 100000 in
set_option maxHeartbeats 4000000 in
theorem cx_BS_byteAt (l : Launch) (D : va_G) (G : xh_G) (hD : xh_D G) (q : Nat) (p1 : Int32) (X : xh_T) : xh_M xh_Qi l D G y_BS_byteAt b_BS_byteAt 2 (some .int) rm_BS_byteAt [.ref (G.1 q), .int p1] X (fx_BS_byteAt q p1 X) := by
  refine xh_enter (ls := [(0, .ref (G.1 q)), (1, .int p1)]) hD (by decide +kernel) (Nat.le_of_ble_eq_true rfl) rfl ?_
  intro p e s m args below meth c hz hr hlk
  unfold fx_BS_byteAt
  refine jr_k (fun hq => ?_)
  refine jr_iload_n hz d_BS_byteAt_0 rfl 1 rfl ?_
  refine jr_if_lt (tgt := 21) hz d_BS_byteAt_1 (by decide) ?_ ?_
  · refine jr_iconst (v := (-1)) hz d_BS_byteAt_21 (by decide) ?_
    exact jr_iret hz hr hlk d_BS_byteAt_22
  · refine jr_iload_n hz d_BS_byteAt_4 rfl 1 rfl ?_
    refine jr_aload_n hz d_BS_byteAt_5 rfl 0 rfl ?_
    refine jr_geti (j := 1) hz (sp_bs_lt hq) (sp_bs_of hq).2.1 rfl wf_BS_15 d_BS_byteAt_6 ?_
    refine jr_icmp_ge (tgt := 21) hz d_BS_byteAt_9 (by decide) ?_ ?_
    · refine jr_iconst (v := (-1)) hz d_BS_byteAt_21 (by decide) ?_
      exact jr_iret hz hr hlk d_BS_byteAt_22
    · refine jr_aload_n hz d_BS_byteAt_12 rfl 0 rfl ?_
      refine jr_getr (j := 0) (t := (q + 1)) hz (sp_bs_lt hq) (sp_bs_of hq).2.1 rfl wf_BS_9 d_BS_byteAt_13 ?_
      refine jr_iload_n hz d_BS_byteAt_16 rfl 1 rfl ?_
      refine jr_iald (n := (sp_len (q + 1))) hz (sp_bs_of hq).1 (sp_bs_of hq).2.2 d_BS_byteAt_17 ?_
      refine jr_goto (tgt := 22) hz d_BS_byteAt_18 (by decide) ?_
      exact jr_iret hz hr hlk d_BS_byteAt_22
theorem d_BS_makeEmpty_0 : decode b_BS_makeEmpty 0 = .ok (.aload_n 0, 1) := by decide +kernel
theorem d_BS_makeEmpty_1 : decode b_BS_makeEmpty 1 = .ok (.iconst 0, 1) := by decide +kernel
theorem d_BS_makeEmpty_2 : decode b_BS_makeEmpty 2 = .ok (.putfield 15, 3) := by decide +kernel
theorem d_BS_makeEmpty_5 : decode b_BS_makeEmpty 5 = .ok (.return_, 1) := by decide +kernel
theorem wp_BS_15 : xh_Fp "SpendScript$ByteString" 15 0 1 := ⟨R_BS, F_BS, 2, t_BS, rfl, by decide, iw_BS, (sp_tb (List.mem_of_getElem? (i := 26) (by decide +kernel))), tk_BS, nk_BS, rfl, rfl⟩
abbrev rm_BS_makeEmpty : Room := { frames := 0, cells := 0, slots := 0, locals := 0 }
def fx_BS_makeEmpty (q : Nat) (X : xh_T) : Option (Unit × xh_T) :=
  xh_k (sp_bs q) (
  xh_n (xh_i X q 1 0) (fun X1 : xh_T =>
  some ((), X1)))
set_option maxRecDepth 100000 in
set_option maxHeartbeats 4000000 in
theorem cx_BS_makeEmpty (l : Launch) (D : va_G) (G : xh_G) (hD : xh_D G) (q : Nat) (X : xh_T) : xh_M xh_Qv l D G y_BS_makeEmpty b_BS_makeEmpty 1 none rm_BS_makeEmpty [.ref (G.1 q)] X (fx_BS_makeEmpty q X) := by
  refine xh_enter (ls := [(0, .ref (G.1 q))]) hD (by decide +kernel) (Nat.le_of_ble_eq_true rfl) rfl ?_
  intro p e s m args below meth c hz hr hlk
  unfold fx_BS_makeEmpty
  refine jr_k (fun hq => ?_)
  refine jr_aload_n hz d_BS_makeEmpty_0 rfl 0 rfl ?_
  refine jr_iconst (v := 0) hz d_BS_makeEmpty_1 (by decide) ?_
  refine jr_puti hz (sp_bs_lt hq) (sp_bs_of hq).2.1 rfl wp_BS_15 d_BS_makeEmpty_2 (fun X1 => ?_)
  exact jr_vret hz hr hlk d_BS_makeEmpty_5
theorem d_BS_append_0 : decode b_BS_append 0 = .ok (.aload_n 0, 1) := by decide +kernel
theorem d_BS_append_1 : decode b_BS_append 1 = .ok (.getfield 15, 3) := by decide +kernel
theorem d_BS_append_4 : decode b_BS_append 4 = .ok (.aload_n 0, 1) := by decide +kernel
theorem d_BS_append_5 : decode b_BS_append 5 = .ok (.getfield 9, 3) := by decide +kernel
theorem d_BS_append_8 : decode b_BS_append 8 = .ok (.arraylength, 1) := by decide +kernel
theorem d_BS_append_9 : decode b_BS_append 9 = .ok (.if_icmp .lt 5, 3) := by decide +kernel
theorem d_BS_append_12 : decode b_BS_append 12 = .ok (.iconst 0, 1) := by decide +kernel
theorem d_BS_append_13 : decode b_BS_append 13 = .ok (.ireturn, 1) := by decide +kernel
theorem d_BS_append_14 : decode b_BS_append 14 = .ok (.aload_n 0, 1) := by decide +kernel
theorem d_BS_append_15 : decode b_BS_append 15 = .ok (.getfield 9, 3) := by decide +kernel
theorem d_BS_append_18 : decode b_BS_append 18 = .ok (.aload_n 0, 1) := by decide +kernel
theorem d_BS_append_19 : decode b_BS_append 19 = .ok (.getfield 15, 3) := by decide +kernel
theorem d_BS_append_22 : decode b_BS_append 22 = .ok (.iload_n 1, 1) := by decide +kernel
theorem d_BS_append_23 : decode b_BS_append 23 = .ok (.sipush 255, 3) := by decide +kernel
theorem d_BS_append_26 : decode b_BS_append 26 = .ok (.iand, 1) := by decide +kernel
theorem d_BS_append_27 : decode b_BS_append 27 = .ok (.iastore, 1) := by decide +kernel
theorem d_BS_append_28 : decode b_BS_append 28 = .ok (.aload_n 0, 1) := by decide +kernel
theorem d_BS_append_29 : decode b_BS_append 29 = .ok (.dup, 1) := by decide +kernel
theorem d_BS_append_30 : decode b_BS_append 30 = .ok (.getfield 15, 3) := by decide +kernel
theorem d_BS_append_33 : decode b_BS_append 33 = .ok (.iconst 1, 1) := by decide +kernel
theorem d_BS_append_34 : decode b_BS_append 34 = .ok (.iadd, 1) := by decide +kernel
theorem d_BS_append_35 : decode b_BS_append 35 = .ok (.putfield 15, 3) := by decide +kernel
theorem d_BS_append_38 : decode b_BS_append 38 = .ok (.iconst 1, 1) := by decide +kernel
theorem d_BS_append_39 : decode b_BS_append 39 = .ok (.ireturn, 1) := by decide +kernel
abbrev rm_BS_append : Room := { frames := 0, cells := 0, slots := 0, locals := 0 }
def fx_BS_append (q : Nat) (p1 : Int32) (X : xh_T) : Option (Int32 × xh_T) :=
  xh_k (sp_bs q) (
  if X.1 q 1 < (nI (sp_len (q + 1))) then
  xh_o (X.1 q 1) (sp_len (q + 1)) (xh_n (xh_i X (q + 1) (X.1 q 1 : Int32).toNatClampNeg (p1 &&& 255)) (fun X1 : xh_T =>
  xh_n (xh_i X1 q 1 (X1.1 q 1 + 1)) (fun X2 : xh_T =>
  some (1, X2))))
  else some (0, X))
set_option maxRecDepth 100000 in
set_option maxHeartbeats 4000000 in
theorem cx_BS_append (l : Launch) (D : va_G) (G : xh_G) (hD : xh_D G) (q : Nat) (p1 : Int32) (X : xh_T) : xh_M xh_Qi l D G y_BS_append b_BS_append 2 (some .boolean) rm_BS_append [.ref (G.1 q), .int p1] X (fx_BS_append q p1 X) := by
  refine xh_enter (ls := [(0, .ref (G.1 q)), (1, .int p1)]) hD (by decide +kernel) (Nat.le_of_ble_eq_true rfl) rfl ?_
  intro p e s m args below meth c hz hr hlk
  unfold fx_BS_append
  refine jr_k (fun hq => ?_)
  refine jr_aload_n hz d_BS_append_0 rfl 0 rfl ?_
  refine jr_geti (j := 1) hz (sp_bs_lt hq) (sp_bs_of hq).2.1 rfl wf_BS_15 d_BS_append_1 ?_
  refine jr_aload_n hz d_BS_append_4 rfl 0 rfl ?_
  refine jr_getr (j := 0) (t := (q + 1)) hz (sp_bs_lt hq) (sp_bs_of hq).2.1 rfl wf_BS_9 d_BS_append_5 ?_
  refine jr_ileni (n := (sp_len (q + 1))) hz (sp_bs_of hq).1 (sp_bs_of hq).2.2 d_BS_append_8 ?_
  refine jr_icmp_lt (tgt := 14) hz d_BS_append_9 (by decide) ?_ ?_
  · refine jr_aload_n hz d_BS_append_14 rfl 0 rfl ?_
    refine jr_getr (j := 0) (t := (q + 1)) hz (sp_bs_lt hq) (sp_bs_of hq).2.1 rfl wf_BS_9 d_BS_append_15 ?_
    refine jr_aload_n hz d_BS_append_18 rfl 0 rfl ?_
    refine jr_geti (j := 1) hz (sp_bs_lt hq) (sp_bs_of hq).2.1 rfl wf_BS_15 d_BS_append_19 ?_
    refine jr_iload_n hz d_BS_append_22 rfl 1 rfl ?_
    refine jr_sipush (v := 255) hz d_BS_append_23 (by decide) ?_
    refine jr_iand hz d_BS_append_26 ?_
    refine jr_iast (n := (sp_len (q + 1))) hz (sp_bs_of hq).1 (sp_bs_of hq).2.2 d_BS_append_27 (fun X1 => ?_)
    refine jr_aload_n hz d_BS_append_28 rfl 0 rfl ?_
    refine jr_dup hz d_BS_append_29 rfl ?_
    refine jr_geti (j := 1) hz (sp_bs_lt hq) (sp_bs_of hq).2.1 rfl wf_BS_15 d_BS_append_30 ?_
    refine jr_iconst (v := 1) hz d_BS_append_33 (by decide) ?_
    refine jr_iadd hz d_BS_append_34 ?_
    refine jr_puti hz (sp_bs_lt hq) (sp_bs_of hq).2.1 rfl wp_BS_15 d_BS_append_35 (fun X2 => ?_)
    refine jr_iconst (v := 1) hz d_BS_append_38 (by decide) ?_
    exact jr_zret hz hr hlk (by decide) d_BS_append_39
  · refine jr_iconst (v := 0) hz d_BS_append_12 (by decide) ?_
    exact jr_zret hz hr hlk (by decide) d_BS_append_13
theorem d_BS_hasPart_0 : decode b_BS_hasPart 0 = .ok (.iload_n 1, 1) := by decide +kernel
theorem d_BS_hasPart_1 : decode b_BS_hasPart 1 = .ok (.ifCond .lt 29, 3) := by decide +kernel
theorem d_BS_hasPart_4 : decode b_BS_hasPart 4 = .ok (.iload_n 2, 1) := by decide +kernel
theorem d_BS_hasPart_5 : decode b_BS_hasPart 5 = .ok (.ifCond .lt 25, 3) := by decide +kernel
theorem d_BS_hasPart_8 : decode b_BS_hasPart 8 = .ok (.iload_n 2, 1) := by decide +kernel
theorem d_BS_hasPart_9 : decode b_BS_hasPart 9 = .ok (.aload_n 0, 1) := by decide +kernel
theorem d_BS_hasPart_10 : decode b_BS_hasPart 10 = .ok (.getfield 15, 3) := by decide +kernel
theorem d_BS_hasPart_13 : decode b_BS_hasPart 13 = .ok (.if_icmp .gt 17, 3) := by decide +kernel
theorem d_BS_hasPart_16 : decode b_BS_hasPart 16 = .ok (.iload_n 1, 1) := by decide +kernel
theorem d_BS_hasPart_17 : decode b_BS_hasPart 17 = .ok (.aload_n 0, 1) := by decide +kernel
theorem d_BS_hasPart_18 : decode b_BS_hasPart 18 = .ok (.getfield 15, 3) := by decide +kernel
theorem d_BS_hasPart_21 : decode b_BS_hasPart 21 = .ok (.iload_n 2, 1) := by decide +kernel
theorem d_BS_hasPart_22 : decode b_BS_hasPart 22 = .ok (.isub, 1) := by decide +kernel
theorem d_BS_hasPart_23 : decode b_BS_hasPart 23 = .ok (.if_icmp .gt 7, 3) := by decide +kernel
theorem d_BS_hasPart_26 : decode b_BS_hasPart 26 = .ok (.iconst 1, 1) := by decide +kernel
theorem d_BS_hasPart_27 : decode b_BS_hasPart 27 = .ok (.goto 4, 3) := by decide +kernel
theorem d_BS_hasPart_30 : decode b_BS_hasPart 30 = .ok (.iconst 0, 1) := by decide +kernel
theorem d_BS_hasPart_31 : decode b_BS_hasPart 31 = .ok (.ireturn, 1) := by decide +kernel
abbrev rm_BS_hasPart : Room := { frames := 0, cells := 0, slots := 0, locals := 0 }
def fx_BS_hasPart (q : Nat) (p1 : Int32) (p2 : Int32) (X : xh_T) : Option (Int32 × xh_T) :=
  xh_k (sp_bs q) (
  if p1 < 0 then
  some (0, X)
  else if p2 < 0 then
  some (0, X)
  else if X.1 q 1 < p2 then
  some (0, X)
  else if (X.1 q 1 - p2) < p1 then
  some (0, X)
  else some (1, X))
set_option maxRecDepth 100000 in
set_option maxHeartbeats 4000000 in
theorem cx_BS_hasPart (l : Launch) (D : va_G) (G : xh_G) (hD : xh_D G) (q : Nat) (p1 : Int32) (p2 : Int32) (X : xh_T) : xh_M xh_Qi l D G y_BS_hasPart b_BS_hasPart 3 (some .boolean) rm_BS_hasPart [.ref (G.1 q), .int p1, .int p2] X (fx_BS_hasPart q p1 p2 X) := by
  refine xh_enter (ls := [(0, .ref (G.1 q)), (1, .int p1), (2, .int p2)]) hD (by decide +kernel) (Nat.le_of_ble_eq_true rfl) rfl ?_
  intro p e s m args below meth c hz hr hlk
  unfold fx_BS_hasPart
  refine jr_k (fun hq => ?_)
  refine jr_iload_n hz d_BS_hasPart_0 rfl 1 rfl ?_
  refine jr_if_lt (tgt := 30) hz d_BS_hasPart_1 (by decide) ?_ ?_
  · refine jr_iconst (v := 0) hz d_BS_hasPart_30 (by decide) ?_
    exact jr_zret hz hr hlk (by decide) d_BS_hasPart_31
  · refine jr_iload_n hz d_BS_hasPart_4 rfl 2 rfl ?_
    refine jr_if_lt (tgt := 30) hz d_BS_hasPart_5 (by decide) ?_ ?_
    · refine jr_iconst (v := 0) hz d_BS_hasPart_30 (by decide) ?_
      exact jr_zret hz hr hlk (by decide) d_BS_hasPart_31
    · refine jr_iload_n hz d_BS_hasPart_8 rfl 2 rfl ?_
      refine jr_aload_n hz d_BS_hasPart_9 rfl 0 rfl ?_
      refine jr_geti (j := 1) hz (sp_bs_lt hq) (sp_bs_of hq).2.1 rfl wf_BS_15 d_BS_hasPart_10 ?_
      refine jr_icmp_gt (tgt := 30) hz d_BS_hasPart_13 (by decide) ?_ ?_
      · refine jr_iconst (v := 0) hz d_BS_hasPart_30 (by decide) ?_
        exact jr_zret hz hr hlk (by decide) d_BS_hasPart_31
      · refine jr_iload_n hz d_BS_hasPart_16 rfl 1 rfl ?_
        refine jr_aload_n hz d_BS_hasPart_17 rfl 0 rfl ?_
        refine jr_geti (j := 1) hz (sp_bs_lt hq) (sp_bs_of hq).2.1 rfl wf_BS_15 d_BS_hasPart_18 ?_
        refine jr_iload_n hz d_BS_hasPart_21 rfl 2 rfl ?_
        refine jr_isub hz d_BS_hasPart_22 ?_
        refine jr_icmp_gt (tgt := 30) hz d_BS_hasPart_23 (by decide) ?_ ?_
        · refine jr_iconst (v := 0) hz d_BS_hasPart_30 (by decide) ?_
          exact jr_zret hz hr hlk (by decide) d_BS_hasPart_31
        · refine jr_iconst (v := 1) hz d_BS_hasPart_26 (by decide) ?_
          refine jr_goto (tgt := 31) hz d_BS_hasPart_27 (by decide) ?_
          exact jr_zret hz hr hlk (by decide) d_BS_hasPart_31
theorem d_BS_becomeCopyOf_0 : decode b_BS_becomeCopyOf 0 = .ok (.aload_n 0, 1) := by decide +kernel
theorem d_BS_becomeCopyOf_1 : decode b_BS_becomeCopyOf 1 = .ok (.aload_n 1, 1) := by decide +kernel
theorem d_BS_becomeCopyOf_2 : decode b_BS_becomeCopyOf 2 = .ok (.getfield 15, 3) := by decide +kernel
theorem d_BS_becomeCopyOf_5 : decode b_BS_becomeCopyOf 5 = .ok (.aload_n 0, 1) := by decide +kernel
theorem d_BS_becomeCopyOf_6 : decode b_BS_becomeCopyOf 6 = .ok (.getfield 9, 3) := by decide +kernel
theorem d_BS_becomeCopyOf_9 : decode b_BS_becomeCopyOf 9 = .ok (.arraylength, 1) := by decide +kernel
theorem d_BS_becomeCopyOf_10 : decode b_BS_becomeCopyOf 10 = .ok (.invokestatic 19, 3) := by decide +kernel
theorem d_BS_becomeCopyOf_13 : decode b_BS_becomeCopyOf 13 = .ok (.putfield 15, 3) := by decide +kernel
theorem d_BS_becomeCopyOf_16 : decode b_BS_becomeCopyOf 16 = .ok (.aload_n 1, 1) := by decide +kernel
theorem d_BS_becomeCopyOf_17 : decode b_BS_becomeCopyOf 17 = .ok (.getfield 9, 3) := by decide +kernel
theorem d_BS_becomeCopyOf_20 : decode b_BS_becomeCopyOf 20 = .ok (.iconst 0, 1) := by decide +kernel
theorem d_BS_becomeCopyOf_21 : decode b_BS_becomeCopyOf 21 = .ok (.aload_n 0, 1) := by decide +kernel
theorem d_BS_becomeCopyOf_22 : decode b_BS_becomeCopyOf 22 = .ok (.getfield 9, 3) := by decide +kernel
theorem d_BS_becomeCopyOf_25 : decode b_BS_becomeCopyOf 25 = .ok (.iconst 0, 1) := by decide +kernel
theorem d_BS_becomeCopyOf_26 : decode b_BS_becomeCopyOf 26 = .ok (.aload_n 0, 1) := by decide +kernel
theorem d_BS_becomeCopyOf_27 : decode b_BS_becomeCopyOf 27 = .ok (.getfield 15, 3) := by decide +kernel
theorem d_BS_becomeCopyOf_30 : decode b_BS_becomeCopyOf 30 = .ok (.invokestatic 25, 3) := by decide +kernel
theorem d_BS_becomeCopyOf_33 : decode b_BS_becomeCopyOf 33 = .ok (.return_, 1) := by decide +kernel
theorem wm_BS_19 : Cond.methodLink "SpendScript$ByteString" 19 Lib.Math.min.name ∈ sp_ws := (sp_tb (List.mem_of_getElem? (i := 384) (by decide +kernel)))
theorem wy_BS_25 : Cond.methodLink "SpendScript$ByteString" 25 arraycopyName ∈ sp_ws := (sp_tb (List.mem_of_getElem? (i := 261) (by decide +kernel)))
abbrev rm_BS_becomeCopyOf : Room := { frames := 1, cells := 0, slots := 0, locals := 80 }
def fx_BS_becomeCopyOf (q : Nat) (o1 : Nat) (X : xh_T) : Option (Unit × xh_T) :=
  xh_k (sp_bs q) (
  xh_k (sp_bs o1) (
  xh_n (xh_i X q 1 (if (nI (sp_len (q + 1))) < X.1 o1 1 then (nI (sp_len (q + 1))) else X.1 o1 1)) (fun X1 : xh_T =>
  xh_cp 0 0 (X1.1 q 1) (sp_len (o1 + 1)) (sp_len (q + 1)) (xh_n (xh_a X1 (q + 1) (va_cpy (X1.1 (o1 + 1)) (X1.1 (q + 1)) (0 : Int32).toNatClampNeg (0 : Int32).toNatClampNeg (X1.1 q 1 : Int32).toNatClampNeg)) (fun X2 : xh_T =>
  some ((), X2))))))
set_option maxRecDepth 100000 in
set_option maxHeartbeats 4000000 in
theorem cx_BS_becomeCopyOf (l : Launch) (D : va_G) (G : xh_G) (hD : xh_D G) (q : Nat) (o1 : Nat) (X : xh_T) : xh_M xh_Qv l D G y_BS_becomeCopyOf b_BS_becomeCopyOf 2 none rm_BS_becomeCopyOf [.ref (G.1 q), .ref (G.1 o1)] X (fx_BS_becomeCopyOf q o1 X) := by
  refine xh_enter (ls := [(0, .ref (G.1 q)), (1, .ref (G.1 o1))]) hD (by decide +kernel) (Nat.le_of_ble_eq_true rfl) rfl ?_
  intro p e s m args below meth c hz hr hlk
  unfold fx_BS_becomeCopyOf
  refine jr_k (fun hq => ?_)
  refine jr_k (fun ho1 => ?_)
  refine jr_aload_n hz d_BS_becomeCopyOf_0 rfl 0 rfl ?_
  refine jr_aload_n hz d_BS_becomeCopyOf_1 rfl 1 rfl ?_
  refine jr_geti (j := 1) hz (sp_bs_lt ho1) (sp_bs_of ho1).2.1 rfl wf_BS_15 d_BS_becomeCopyOf_2 ?_
  refine jr_aload_n hz d_BS_becomeCopyOf_5 rfl 0 rfl ?_
  refine jr_getr (j := 0) (t := (q + 1)) hz (sp_bs_lt hq) (sp_bs_of hq).2.1 rfl wf_BS_9 d_BS_becomeCopyOf_6 ?_
  refine jr_ileni (n := (sp_len (q + 1))) hz (sp_bs_of hq).1 (sp_bs_of hq).2.2 d_BS_becomeCopyOf_9 ?_
  refine jr_mmin hz wm_BS_19 wa_mmin_static wa_init_Math wa_mmin_code (Nat.le_of_ble_eq_true rfl) (Nat.le_of_ble_eq_true rfl) ⟨Nat.zero_le _, Nat.zero_le _⟩ d_BS_becomeCopyOf_10 ?_
  refine jr_puti hz (sp_bs_lt hq) (sp_bs_of hq).2.1 rfl wp_BS_15 d_BS_becomeCopyOf_13 (fun X1 => ?_)
  refine jr_aload_n hz d_BS_becomeCopyOf_16 rfl 1 rfl ?_
  refine jr_getr (j := 0) (t := (o1 + 1)) hz (sp_bs_lt ho1) (sp_bs_of ho1).2.1 rfl wf_BS_9 d_BS_becomeCopyOf_17 ?_
  refine jr_iconst (v := 0) hz d_BS_becomeCopyOf_20 (by decide) ?_
  refine jr_aload_n hz d_BS_becomeCopyOf_21 rfl 0 rfl ?_
  refine jr_getr (j := 0) (t := (q + 1)) hz (sp_bs_lt hq) (sp_bs_of hq).2.1 rfl wf_BS_9 d_BS_becomeCopyOf_22 ?_
  refine jr_iconst (v := 0) hz d_BS_becomeCopyOf_25 (by decide) ?_
  refine jr_aload_n hz d_BS_becomeCopyOf_26 rfl 0 rfl ?_
  refine jr_geti (j := 1) hz (sp_bs_lt hq) (sp_bs_of hq).2.1 rfl wf_BS_15 d_BS_becomeCopyOf_27 ?_
  refine jr_copyi (n0 := (sp_len (o1 + 1))) (n1 := (sp_len (q + 1))) hz wy_BS_25 wa_copy_native wa_copy_static wa_init_System (sp_bs_of ho1).1 (sp_bs_of ho1).2.2 (sp_bs_of hq).1 (sp_bs_of hq).2.2 (Nat.le_of_ble_eq_true rfl) (Nat.le_of_ble_eq_true rfl) d_BS_becomeCopyOf_30 (fun X2 => ?_)
  exact jr_vret hz hr hlk d_BS_becomeCopyOf_33
theorem d_BS_becomePartOf_0 : decode b_BS_becomePartOf 0 = .ok (.aload_n 0, 1) := by decide +kernel
theorem d_BS_becomePartOf_1 : decode b_BS_becomePartOf 1 = .ok (.iconst 0, 1) := by decide +kernel
theorem d_BS_becomePartOf_2 : decode b_BS_becomePartOf 2 = .ok (.putfield 15, 3) := by decide +kernel
theorem d_BS_becomePartOf_5 : decode b_BS_becomePartOf 5 = .ok (.aload_n 1, 1) := by decide +kernel
theorem d_BS_becomePartOf_6 : decode b_BS_becomePartOf 6 = .ok (.iload_n 2, 1) := by decide +kernel
theorem d_BS_becomePartOf_7 : decode b_BS_becomePartOf 7 = .ok (.iload_n 3, 1) := by decide +kernel
theorem d_BS_becomePartOf_8 : decode b_BS_becomePartOf 8 = .ok (.invokevirtual 31, 3) := by decide +kernel
theorem d_BS_becomePartOf_11 : decode b_BS_becomePartOf 11 = .ok (.ifCond .eq 31, 3) := by decide +kernel
theorem d_BS_becomePartOf_14 : decode b_BS_becomePartOf 14 = .ok (.iload_n 3, 1) := by decide +kernel
theorem d_BS_becomePartOf_15 : decode b_BS_becomePartOf 15 = .ok (.aload_n 0, 1) := by decide +kernel
theorem d_BS_becomePartOf_16 : decode b_BS_becomePartOf 16 = .ok (.getfield 9, 3) := by decide +kernel
theorem d_BS_becomePartOf_19 : decode b_BS_becomePartOf 19 = .ok (.arraylength, 1) := by decide +kernel
theorem d_BS_becomePartOf_20 : decode b_BS_becomePartOf 20 = .ok (.if_icmp .gt 22, 3) := by decide +kernel
theorem d_BS_becomePartOf_23 : decode b_BS_becomePartOf 23 = .ok (.aload_n 1, 1) := by decide +kernel
theorem d_BS_becomePartOf_24 : decode b_BS_becomePartOf 24 = .ok (.getfield 9, 3) := by decide +kernel
theorem d_BS_becomePartOf_27 : decode b_BS_becomePartOf 27 = .ok (.iload_n 2, 1) := by decide +kernel
theorem d_BS_becomePartOf_28 : decode b_BS_becomePartOf 28 = .ok (.aload_n 0, 1) := by decide +kernel
theorem d_BS_becomePartOf_29 : decode b_BS_becomePartOf 29 = .ok (.getfield 9, 3) := by decide +kernel
theorem d_BS_becomePartOf_32 : decode b_BS_becomePartOf 32 = .ok (.iconst 0, 1) := by decide +kernel
theorem d_BS_becomePartOf_33 : decode b_BS_becomePartOf 33 = .ok (.iload_n 3, 1) := by decide +kernel
theorem d_BS_becomePartOf_34 : decode b_BS_becomePartOf 34 = .ok (.invokestatic 25, 3) := by decide +kernel
theorem d_BS_becomePartOf_37 : decode b_BS_becomePartOf 37 = .ok (.aload_n 0, 1) := by decide +kernel
theorem d_BS_becomePartOf_38 : decode b_BS_becomePartOf 38 = .ok (.iload_n 3, 1) := by decide +kernel
theorem d_BS_becomePartOf_39 : decode b_BS_becomePartOf 39 = .ok (.putfield 15, 3) := by decide +kernel
theorem d_BS_becomePartOf_42 : decode b_BS_becomePartOf 42 = .ok (.return_, 1) := by decide +kernel
theorem wv_BS_31 : xh_V "SpendScript$ByteString" 31 0 y_BS_hasPart b_BS_hasPart 3 (some .boolean) 2 := ⟨(sp_tb (List.mem_of_getElem? (i := 205) (by decide +kernel))), (sp_tb (List.mem_of_getElem? (i := 2) (by decide +kernel))), (sp_tb (List.mem_of_getElem? (i := 260) (by decide +kernel))), ⟨by decide +kernel, by decide +kernel, by decide +kernel⟩, (sp_tb (List.mem_of_getElem? (i := 203) (by decide +kernel))), (sp_tb (List.mem_of_getElem? (i := 204) (by decide +kernel))), F_BS, 2, rfl⟩
abbrev rm_BS_becomePartOf : Room := { frames := 1, cells := 0, slots := 0, locals := 80 }
def fx_BS_becomePartOf (q : Nat) (o1 : Nat) (p2 : Int32) (p3 : Int32) (X : xh_T) : Option (Unit × xh_T) :=
  xh_k (sp_bs q) (
  xh_k (sp_bs o1) (
  xh_n (xh_i X q 1 0) (fun X1 : xh_T =>
  xh_b (fx_BS_hasPart o1 p2 p3 X1) (fun (r2 : Int32) (X2 : xh_T) =>
  if r2 = 0 then
  some ((), X2)
  else if (nI (sp_len (q + 1))) < p3 then
  some ((), X2)
  else xh_cp p2 0 p3 (sp_len (o1 + 1)) (sp_len (q + 1)) (xh_n (xh_a X2 (q + 1) (va_cpy (X2.1 (o1 + 1)) (X2.1 (q + 1)) (p2 : Int32).toNatClampNeg (0 : Int32).toNatClampNeg (p3 : Int32).toNatClampNeg)) (fun X3 : xh_T =>
  xh_n (xh_i X3 q 1 p3) (fun X4 : xh_T =>
  some ((), X4))))))))
set_option maxRecDepth 100000 in
set_option maxHeartbeats 4000000 in
theorem cx_BS_becomePartOf (l : Launch) (D : va_G) (G : xh_G) (hD : xh_D G) (q : Nat) (o1 : Nat) (p2 : Int32) (p3 : Int32) (X : xh_T) : xh_M xh_Qv l D G y_BS_becomePartOf b_BS_becomePartOf 4 none rm_BS_becomePartOf [.ref (G.1 q), .ref (G.1 o1), .int p2, .int p3] X (fx_BS_becomePartOf q o1 p2 p3 X) := by
  refine xh_enter (ls := [(0, .ref (G.1 q)), (1, .ref (G.1 o1)), (2, .int p2), (3, .int p3)]) hD (by decide +kernel) (Nat.le_of_ble_eq_true rfl) rfl ?_
  intro p e s m args below meth c hz hr hlk
  unfold fx_BS_becomePartOf
  refine jr_k (fun hq => ?_)
  refine jr_k (fun ho1 => ?_)
  refine jr_aload_n hz d_BS_becomePartOf_0 rfl 0 rfl ?_
  refine jr_iconst (v := 0) hz d_BS_becomePartOf_1 (by decide) ?_
  refine jr_puti hz (sp_bs_lt hq) (sp_bs_of hq).2.1 rfl wp_BS_15 d_BS_becomePartOf_2 (fun X1 => ?_)
  refine jr_aload_n hz d_BS_becomePartOf_5 rfl 1 rfl ?_
  refine jr_iload_n hz d_BS_becomePartOf_6 rfl 2 rfl ?_
  refine jr_iload_n hz d_BS_becomePartOf_7 rfl 3 rfl ?_
  refine jr_callVi (As := [.int p2, .int p3]) (a := o1) (ci := 0) (st := []) hz (cx_BS_hasPart l D G hz.2.2.2.2.2.2.1 o1 p2 p3 X1) (fun z h => sp_bs_v (xh_k_t h)) wv_BS_31 ⟨rfl, rfl, Nat.le_of_ble_eq_true rfl, Nat.le_of_ble_eq_true rfl⟩ ⟨Nat.zero_le _, Nat.zero_le _⟩ rfl rfl (Nat.le_of_ble_eq_true rfl) d_BS_becomePartOf_8 (fun r2 X2 => ?_)
  refine jr_if_eq (tgt := 42) hz d_BS_becomePartOf_11 (by decide) ?_ ?_
  · exact jr_vret hz hr hlk d_BS_becomePartOf_42
  · refine jr_iload_n hz d_BS_becomePartOf_14 rfl 3 rfl ?_
    refine jr_aload_n hz d_BS_becomePartOf_15 rfl 0 rfl ?_
    refine jr_getr (j := 0) (t := (q + 1)) hz (sp_bs_lt hq) (sp_bs_of hq).2.1 rfl wf_BS_9 d_BS_becomePartOf_16 ?_
    refine jr_ileni (n := (sp_len (q + 1))) hz (sp_bs_of hq).1 (sp_bs_of hq).2.2 d_BS_becomePartOf_19 ?_
    refine jr_icmp_gt (tgt := 42) hz d_BS_becomePartOf_20 (by decide) ?_ ?_
    · exact jr_vret hz hr hlk d_BS_becomePartOf_42
    · refine jr_aload_n hz d_BS_becomePartOf_23 rfl 1 rfl ?_
      refine jr_getr (j := 0) (t := (o1 + 1)) hz (sp_bs_lt ho1) (sp_bs_of ho1).2.1 rfl wf_BS_9 d_BS_becomePartOf_24 ?_
      refine jr_iload_n hz d_BS_becomePartOf_27 rfl 2 rfl ?_
      refine jr_aload_n hz d_BS_becomePartOf_28 rfl 0 rfl ?_
      refine jr_getr (j := 0) (t := (q + 1)) hz (sp_bs_lt hq) (sp_bs_of hq).2.1 rfl wf_BS_9 d_BS_becomePartOf_29 ?_
      refine jr_iconst (v := 0) hz d_BS_becomePartOf_32 (by decide) ?_
      refine jr_iload_n hz d_BS_becomePartOf_33 rfl 3 rfl ?_
      refine jr_copyi (n0 := (sp_len (o1 + 1))) (n1 := (sp_len (q + 1))) hz wy_BS_25 wa_copy_native wa_copy_static wa_init_System (sp_bs_of ho1).1 (sp_bs_of ho1).2.2 (sp_bs_of hq).1 (sp_bs_of hq).2.2 (Nat.le_of_ble_eq_true rfl) (Nat.le_of_ble_eq_true rfl) d_BS_becomePartOf_34 (fun X3 => ?_)
      refine jr_aload_n hz d_BS_becomePartOf_37 rfl 0 rfl ?_
      refine jr_iload_n hz d_BS_becomePartOf_38 rfl 3 rfl ?_
      refine jr_puti hz (sp_bs_lt hq) (sp_bs_of hq).2.1 rfl wp_BS_15 d_BS_becomePartOf_39 (fun X4 => ?_)
      exact jr_vret hz hr hlk d_BS_becomePartOf_42
theorem d_BS_sameBytesAs_0 : decode b_BS_sameBytesAs 0 = .ok (.aload_n 0, 1) := by decide +kernel
theorem d_BS_sameBytesAs_1 : decode b_BS_sameBytesAs 1 = .ok (.getfield 15, 3) := by decide +kernel
theorem d_BS_sameBytesAs_4 : decode b_BS_sameBytesAs 4 = .ok (.aload_n 1, 1) := by decide +kernel
theorem d_BS_sameBytesAs_5 : decode b_BS_sameBytesAs 5 = .ok (.getfield 15, 3) := by decide +kernel
theorem d_BS_sameBytesAs_8 : decode b_BS_sameBytesAs 8 = .ok (.if_icmp .eq 5, 3) := by decide +kernel
theorem d_BS_sameBytesAs_11 : decode b_BS_sameBytesAs 11 = .ok (.iconst 0, 1) := by decide +kernel
theorem d_BS_sameBytesAs_12 : decode b_BS_sameBytesAs 12 = .ok (.ireturn, 1) := by decide +kernel
theorem d_BS_sameBytesAs_13 : decode b_BS_sameBytesAs 13 = .ok (.iconst 0, 1) := by decide +kernel
theorem d_BS_sameBytesAs_14 : decode b_BS_sameBytesAs 14 = .ok (.istore_n 2, 1) := by decide +kernel
theorem d_BS_sameBytesAs_15 : decode b_BS_sameBytesAs 15 = .ok (.iload_n 2, 1) := by decide +kernel
theorem d_BS_sameBytesAs_16 : decode b_BS_sameBytesAs 16 = .ok (.aload_n 0, 1) := by decide +kernel
theorem d_BS_sameBytesAs_17 : decode b_BS_sameBytesAs 17 = .ok (.getfield 15, 3) := by decide +kernel
theorem d_BS_sameBytesAs_20 : decode b_BS_sameBytesAs 20 = .ok (.if_icmp .ge 26, 3) := by decide +kernel
theorem d_BS_sameBytesAs_23 : decode b_BS_sameBytesAs 23 = .ok (.aload_n 0, 1) := by decide +kernel
theorem d_BS_sameBytesAs_24 : decode b_BS_sameBytesAs 24 = .ok (.getfield 9, 3) := by decide +kernel
theorem d_BS_sameBytesAs_27 : decode b_BS_sameBytesAs 27 = .ok (.iload_n 2, 1) := by decide +kernel
theorem d_BS_sameBytesAs_28 : decode b_BS_sameBytesAs 28 = .ok (.iaload, 1) := by decide +kernel
theorem d_BS_sameBytesAs_29 : decode b_BS_sameBytesAs 29 = .ok (.aload_n 1, 1) := by decide +kernel
theorem d_BS_sameBytesAs_30 : decode b_BS_sameBytesAs 30 = .ok (.getfield 9, 3) := by decide +kernel
theorem d_BS_sameBytesAs_33 : decode b_BS_sameBytesAs 33 = .ok (.iload_n 2, 1) := by decide +kernel
theorem d_BS_sameBytesAs_34 : decode b_BS_sameBytesAs 34 = .ok (.iaload, 1) := by decide +kernel
theorem d_BS_sameBytesAs_35 : decode b_BS_sameBytesAs 35 = .ok (.if_icmp .eq 5, 3) := by decide +kernel
theorem d_BS_sameBytesAs_38 : decode b_BS_sameBytesAs 38 = .ok (.iconst 0, 1) := by decide +kernel
theorem d_BS_sameBytesAs_39 : decode b_BS_sameBytesAs 39 = .ok (.ireturn, 1) := by decide +kernel
theorem d_BS_sameBytesAs_40 : decode b_BS_sameBytesAs 40 = .ok (.iinc 2 1, 3) := by decide +kernel
theorem d_BS_sameBytesAs_43 : decode b_BS_sameBytesAs 43 = .ok (.goto (-28), 3) := by decide +kernel
theorem d_BS_sameBytesAs_46 : decode b_BS_sameBytesAs 46 = .ok (.iconst 1, 1) := by decide +kernel
theorem d_BS_sameBytesAs_47 : decode b_BS_sameBytesAs 47 = .ok (.ireturn, 1) := by decide +kernel
abbrev rm_BS_sameBytesAs : Room := { frames := 0, cells := 0, slots := 0, locals := 0 }
def fx_BS_sameBytesAs_b15 (q : Nat) (o1 : Nat) : Nat → Int32 → xh_T → Option (Int32 × xh_T)
  | 0, _, _ => none
  | n + 1, a2, X => if X.1 q 1 ≤ a2 then
  some (1, X)
  else xh_o a2 (sp_len (q + 1)) (xh_o a2 (sp_len (o1 + 1)) (if (X.1 (q + 1) a2.toNatClampNeg) = (X.1 (o1 + 1) a2.toNatClampNeg) then
  xh_n (a2 + 1) (fun v2 : Int32 =>
  fx_BS_sameBytesAs_b15 q o1 n v2 X)
  else some (0, X)))
set_option maxRecDepth 100000 in
set_option maxHeartbeats 4000000 in
theorem jb_BS_sameBytesAs_b15 {p : Program} {l : Launch} {e : Env} {s : State} {m : MethodId} {args : Array Value} {below : List Frame} {meth : Method} {c : Code} {D : va_G} {G : xh_G} {q : Nat} {o1 : Nat} (hz : xh_C p s m args c b_BS_sameBytesAs 3 "SpendScript$ByteString" D G (xh_A G s.heap.size)) (hr : meth.sig.returnType = (some .boolean)) (hlk : meth.locks = false) (hq : sp_bs q = true) (ho1 : sp_bs o1 = true) : ∀ (n : Nat) (a2 : Int32) (X : xh_T), xh_J p l e rm_BS_sameBytesAs s m args below meth c 0 0 D G (xh_A G s.heap.size) 3 (fun r X' => MQ below (xh_Qi D G (xh_A G s.heap.size) r X') args s 0 0 (xh_A G s.heap.size)) 15 [(0, .ref (G.1 q)), (1, .ref (G.1 o1)), (2, .int a2)] [] X (fx_BS_sameBytesAs_b15 q o1 n a2 X) := by
  intro n
  induction n with
  | zero => intro a2 X; exact jr_none
  | succ n ih =>
    intro a2 X
    rw [fx_BS_sameBytesAs_b15]
    refine jr_iload_n hz d_BS_sameBytesAs_15 rfl 2 rfl ?_
    refine jr_aload_n hz d_BS_sameBytesAs_16 rfl 0 rfl ?_
    refine jr_geti (j := 1) hz (sp_bs_lt hq) (sp_bs_of hq).2.1 rfl wf_BS_15 d_BS_sameBytesAs_17 ?_
    refine jr_icmp_ge (tgt := 46) hz d_BS_sameBytesAs_20 (by decide) ?_ ?_
    · refine jr_iconst (v := 1) hz d_BS_sameBytesAs_46 (by decide) ?_
      exact jr_zret hz hr hlk (by decide) d_BS_sameBytesAs_47
    · refine jr_aload_n hz d_BS_sameBytesAs_23 rfl 0 rfl ?_
      refine jr_getr (j := 0) (t := (q + 1)) hz (sp_bs_lt hq) (sp_bs_of hq).2.1 rfl wf_BS_9 d_BS_sameBytesAs_24 ?_
      refine jr_iload_n hz d_BS_sameBytesAs_27 rfl 2 rfl ?_
      refine jr_iald (n := (sp_len (q + 1))) hz (sp_bs_of hq).1 (sp_bs_of hq).2.2 d_BS_sameBytesAs_28 ?_
      refine jr_aload_n hz d_BS_sameBytesAs_29 rfl 1 rfl ?_
      refine jr_getr (j := 0) (t := (o1 + 1)) hz (sp_bs_lt ho1) (sp_bs_of ho1).2.1 rfl wf_BS_9 d_BS_sameBytesAs_30 ?_
      refine jr_iload_n hz d_BS_sameBytesAs_33 rfl 2 rfl ?_
      refine jr_iald (n := (sp_len (o1 + 1))) hz (sp_bs_of ho1).1 (sp_bs_of ho1).2.2 d_BS_sameBytesAs_34 ?_
      refine jr_icmp_eq (tgt := 40) hz d_BS_sameBytesAs_35 (by decide) ?_ ?_
      · refine jr_iinc (lf := [(0, .ref (G.1 q)), (1, .ref (G.1 o1))]) (w := 1) hz d_BS_sameBytesAs_40 2 rfl (by decide) (by decide) rfl (fun v2 => ?_)
        refine jr_goto (tgt := 15) hz d_BS_sameBytesAs_43 (by decide) ?_
        refine jr_sub (ls' := [(0, .ref (G.1 q)), (1, .ref (G.1 o1)), (2, .int v2)]) [1, 2, 0] rfl ?_
        exact ih v2 X
      · refine jr_iconst (v := 0) hz d_BS_sameBytesAs_38 (by decide) ?_
        exact jr_zret hz hr hlk (by decide) d_BS_sameBytesAs_39
def fx_BS_sameBytesAs (q : Nat) (o1 : Nat) (X : xh_T) : Option (Int32 × xh_T) :=
  xh_k (sp_bs q) (
  xh_k (sp_bs o1) (
  if X.1 q 1 = X.1 o1 1 then
  xh_n 0 (fun v1 : Int32 =>
  fx_BS_sameBytesAs_b15 q o1 sp_fuel v1 X)
  else some (0, X)))
set_option maxRecDepth 100000 in
set_option maxHeartbeats 4000000 in
theorem cx_BS_sameBytesAs (l : Launch) (D : va_G) (G : xh_G) (hD : xh_D G) (q : Nat) (o1 : Nat) (X : xh_T) : xh_M xh_Qi l D G y_BS_sameBytesAs b_BS_sameBytesAs 3 (some .boolean) rm_BS_sameBytesAs [.ref (G.1 q), .ref (G.1 o1)] X (fx_BS_sameBytesAs q o1 X) := by
  refine xh_enter (ls := [(0, .ref (G.1 q)), (1, .ref (G.1 o1))]) hD (by decide +kernel) (Nat.le_of_ble_eq_true rfl) rfl ?_
  intro p e s m args below meth c hz hr hlk
  unfold fx_BS_sameBytesAs
  refine jr_k (fun hq => ?_)
  refine jr_k (fun ho1 => ?_)
  refine jr_aload_n hz d_BS_sameBytesAs_0 rfl 0 rfl ?_
  refine jr_geti (j := 1) hz (sp_bs_lt hq) (sp_bs_of hq).2.1 rfl wf_BS_15 d_BS_sameBytesAs_1 ?_
  refine jr_aload_n hz d_BS_sameBytesAs_4 rfl 1 rfl ?_
  refine jr_geti (j := 1) hz (sp_bs_lt ho1) (sp_bs_of ho1).2.1 rfl wf_BS_15 d_BS_sameBytesAs_5 ?_
  refine jr_icmp_eq (tgt := 13) hz d_BS_sameBytesAs_8 (by decide) ?_ ?_
  · refine jr_iconst (v := 0) hz d_BS_sameBytesAs_13 (by decide) ?_
    refine jr_istore_n (lf := [(0, .ref (G.1 q)), (1, .ref (G.1 o1))]) hz d_BS_sameBytesAs_14 rfl (by decide) rfl (fun v1 => ?_)
    refine jr_sub (ls' := [(0, .ref (G.1 q)), (1, .ref (G.1 o1)), (2, .int v1)]) [1, 2, 0] rfl ?_
    exact jb_BS_sameBytesAs_b15 hz hr hlk hq ho1 sp_fuel v1 X
  · refine jr_iconst (v := 0) hz d_BS_sameBytesAs_11 (by decide) ?_
    exact jr_zret hz hr hlk (by decide) d_BS_sameBytesAs_12
theorem d_BS_hash_0 : decode b_BS_hash 0 = .ok (.bipush 17, 2) := by decide +kernel
theorem d_BS_hash_2 : decode b_BS_hash 2 = .ok (.istore_n 3, 1) := by decide +kernel
theorem d_BS_hash_3 : decode b_BS_hash 3 = .ok (.iconst 0, 1) := by decide +kernel
theorem d_BS_hash_4 : decode b_BS_hash 4 = .ok (.istore 4, 2) := by decide +kernel
theorem d_BS_hash_6 : decode b_BS_hash 6 = .ok (.iload 4, 2) := by decide +kernel
theorem d_BS_hash_8 : decode b_BS_hash 8 = .ok (.aload_n 0, 1) := by decide +kernel
theorem d_BS_hash_9 : decode b_BS_hash 9 = .ok (.getfield 15, 3) := by decide +kernel
theorem d_BS_hash_12 : decode b_BS_hash 12 = .ok (.if_icmp .ge 36, 3) := by decide +kernel
theorem d_BS_hash_15 : decode b_BS_hash 15 = .ok (.iload 4, 2) := by decide +kernel
theorem d_BS_hash_17 : decode b_BS_hash 17 = .ok (.iload_n 1, 1) := by decide +kernel
theorem d_BS_hash_18 : decode b_BS_hash 18 = .ok (.if_icmp .lt 24, 3) := by decide +kernel
theorem d_BS_hash_21 : decode b_BS_hash 21 = .ok (.iload 4, 2) := by decide +kernel
theorem d_BS_hash_23 : decode b_BS_hash 23 = .ok (.iload_n 1, 1) := by decide +kernel
theorem d_BS_hash_24 : decode b_BS_hash 24 = .ok (.isub, 1) := by decide +kernel
theorem d_BS_hash_25 : decode b_BS_hash 25 = .ok (.iload_n 2, 1) := by decide +kernel
theorem d_BS_hash_26 : decode b_BS_hash 26 = .ok (.if_icmp .ge 16, 3) := by decide +kernel
theorem d_BS_hash_29 : decode b_BS_hash 29 = .ok (.iload_n 3, 1) := by decide +kernel
theorem d_BS_hash_30 : decode b_BS_hash 30 = .ok (.bipush 31, 2) := by decide +kernel
theorem d_BS_hash_32 : decode b_BS_hash 32 = .ok (.imul, 1) := by decide +kernel
theorem d_BS_hash_33 : decode b_BS_hash 33 = .ok (.aload_n 0, 1) := by decide +kernel
theorem d_BS_hash_34 : decode b_BS_hash 34 = .ok (.getfield 9, 3) := by decide +kernel
theorem d_BS_hash_37 : decode b_BS_hash 37 = .ok (.iload 4, 2) := by decide +kernel
theorem d_BS_hash_39 : decode b_BS_hash 39 = .ok (.iaload, 1) := by decide +kernel
theorem d_BS_hash_40 : decode b_BS_hash 40 = .ok (.iadd, 1) := by decide +kernel
theorem d_BS_hash_41 : decode b_BS_hash 41 = .ok (.istore_n 3, 1) := by decide +kernel
theorem d_BS_hash_42 : decode b_BS_hash 42 = .ok (.iinc 4 1, 3) := by decide +kernel
theorem d_BS_hash_45 : decode b_BS_hash 45 = .ok (.goto (-39), 3) := by decide +kernel
theorem d_BS_hash_48 : decode b_BS_hash 48 = .ok (.iload_n 3, 1) := by decide +kernel
theorem d_BS_hash_49 : decode b_BS_hash 49 = .ok (.ireturn, 1) := by decide +kernel
abbrev rm_BS_hash : Room := { frames := 0, cells := 0, slots := 0, locals := 0 }
def fx_BS_hash_b6 (q : Nat) : Nat → Int32 → Int32 → Int32 → Int32 → xh_T → Option (Int32 × xh_T)
  | 0, _, _, _, _, _ => none
  | n + 1, a1, a2, a3, a4, X => if X.1 q 1 ≤ a4 then
  some (a3, X)
  else if a4 < a1 then
  xh_n (a4 + 1) (fun v3 : Int32 =>
  fx_BS_hash_b6 q n a1 a2 a3 v3 X)
  else if a2 ≤ (a4 - a1) then
  xh_n (a4 + 1) (fun v4 : Int32 =>
  fx_BS_hash_b6 q n a1 a2 a3 v4 X)
  else xh_o a4 (sp_len (q + 1)) (xh_n ((a3 * 31) + (X.1 (q + 1) a4.toNatClampNeg)) (fun v5 : Int32 =>
  xh_n (a4 + 1) (fun v6 : Int32 =>
  fx_BS_hash_b6 q n a1 a2 v5 v6 X)))
set_option maxRecDepth 100000 in
set_option maxHeartbeats 4000000 in
theorem jb_BS_hash_b6 {p : Program} {l : Launch} {e : Env} {s : State} {m : MethodId} {args : Array Value} {below : List Frame} {meth : Method} {c : Code} {D : va_G} {G : xh_G} {q : Nat} (hz : xh_C p s m args c b_BS_hash 5 "SpendScript$ByteString" D G (xh_A G s.heap.size)) (hr : meth.sig.returnType = (some .int)) (hlk : meth.locks = false) (hq : sp_bs q = true) : ∀ (n : Nat) (a1 : Int32) (a2 : Int32) (a3 : Int32) (a4 : Int32) (X : xh_T), xh_J p l e rm_BS_hash s m args below meth c 0 0 D G (xh_A G s.heap.size) 5 (fun r X' => MQ below (xh_Qi D G (xh_A G s.heap.size) r X') args s 0 0 (xh_A G s.heap.size)) 6 [(0, .ref (G.1 q)), (1, .int a1), (2, .int a2), (3, .int a3), (4, .int a4)] [] X (fx_BS_hash_b6 q n a1 a2 a3 a4 X) := by
  intro n
  induction n with
  | zero => intro a1 a2 a3 a4 X; exact jr_none
  | succ n ih =>
    intro a1 a2 a3 a4 X
    rw [fx_BS_hash_b6]
    refine jr_iload hz d_BS_hash_6 4 rfl ?_
    refine jr_aload_n hz d_BS_hash_8 rfl 0 rfl ?_
    refine jr_geti (j := 1) hz (sp_bs_lt hq) (sp_bs_of hq).2.1 rfl wf_BS_15 d_BS_hash_9 ?_
    refine jr_icmp_ge (tgt := 48) hz d_BS_hash_12 (by decide) ?_ ?_
    · refine jr_iload_n hz d_BS_hash_48 rfl 3 rfl ?_
      exact jr_iret hz hr hlk d_BS_hash_49
    · refine jr_iload hz d_BS_hash_15 4 rfl ?_
      refine jr_iload_n hz d_BS_hash_17 rfl 1 rfl ?_
      refine jr_icmp_lt (tgt := 42) hz d_BS_hash_18 (by decide) ?_ ?_
      · refine jr_iinc (lf := [(0, .ref (G.1 q)), (1, .int a1), (2, .int a2), (3, .int a3)]) (w := 1) hz d_BS_hash_42 4 rfl (by decide) (by decide) rfl (fun v3 => ?_)
        refine jr_goto (tgt := 6) hz d_BS_hash_45 (by decide) ?_
        refine jr_sub (ls' := [(0, .ref (G.1 q)), (1, .int a1), (2, .int a2), (3, .int a3), (4, .int v3)]) [1, 2, 3, 4, 0] rfl ?_
        exact ih a1 a2 a3 v3 X
      · refine jr_iload hz d_BS_hash_21 4 rfl ?_
        refine jr_iload_n hz d_BS_hash_23 rfl 1 rfl ?_
        refine jr_isub hz d_BS_hash_24 ?_
        refine jr_iload_n hz d_BS_hash_25 rfl 2 rfl ?_
        refine jr_icmp_ge (tgt := 42) hz d_BS_hash_26 (by decide) ?_ ?_
        · refine jr_iinc (lf := [(0, .ref (G.1 q)), (1, .int a1), (2, .int a2), (3, .int a3)]) (w := 1) hz d_BS_hash_42 4 rfl (by decide) (by decide) rfl (fun v4 => ?_)
          refine jr_goto (tgt := 6) hz d_BS_hash_45 (by decide) ?_
          refine jr_sub (ls' := [(0, .ref (G.1 q)), (1, .int a1), (2, .int a2), (3, .int a3), (4, .int v4)]) [1, 2, 3, 4, 0] rfl ?_
          exact ih a1 a2 a3 v4 X
        · refine jr_iload_n hz d_BS_hash_29 rfl 3 rfl ?_
          refine jr_bipush (v := 31) hz d_BS_hash_30 (by decide) ?_
          refine jr_imul hz d_BS_hash_32 ?_
          refine jr_aload_n hz d_BS_hash_33 rfl 0 rfl ?_
          refine jr_getr (j := 0) (t := (q + 1)) hz (sp_bs_lt hq) (sp_bs_of hq).2.1 rfl wf_BS_9 d_BS_hash_34 ?_
          refine jr_iload hz d_BS_hash_37 4 rfl ?_
          refine jr_iald (n := (sp_len (q + 1))) hz (sp_bs_of hq).1 (sp_bs_of hq).2.2 d_BS_hash_39 ?_
          refine jr_iadd hz d_BS_hash_40 ?_
          refine jr_istore_n (lf := [(0, .ref (G.1 q)), (1, .int a1), (2, .int a2), (4, .int a4)]) hz d_BS_hash_41 rfl (by decide) rfl (fun v5 => ?_)
          refine jr_iinc (lf := [(3, .int v5), (0, .ref (G.1 q)), (1, .int a1), (2, .int a2)]) (w := 1) hz d_BS_hash_42 4 rfl (by decide) (by decide) rfl (fun v6 => ?_)
          refine jr_goto (tgt := 6) hz d_BS_hash_45 (by decide) ?_
          refine jr_sub (ls' := [(0, .ref (G.1 q)), (1, .int a1), (2, .int a2), (3, .int v5), (4, .int v6)]) [2, 3, 4, 1, 0] rfl ?_
          exact ih a1 a2 v5 v6 X
def fx_BS_hash (q : Nat) (p1 : Int32) (p2 : Int32) (X : xh_T) : Option (Int32 × xh_T) :=
  xh_k (sp_bs q) (
  xh_n 17 (fun v1 : Int32 =>
  xh_n 0 (fun v2 : Int32 =>
  fx_BS_hash_b6 q sp_fuel p1 p2 v1 v2 X)))
set_option maxRecDepth 100000 in
set_option maxHeartbeats 4000000 in
theorem cx_BS_hash (l : Launch) (D : va_G) (G : xh_G) (hD : xh_D G) (q : Nat) (p1 : Int32) (p2 : Int32) (X : xh_T) : xh_M xh_Qi l D G y_BS_hash b_BS_hash 5 (some .int) rm_BS_hash [.ref (G.1 q), .int p1, .int p2] X (fx_BS_hash q p1 p2 X) := by
  refine xh_enter (ls := [(0, .ref (G.1 q)), (1, .int p1), (2, .int p2)]) hD (by decide +kernel) (Nat.le_of_ble_eq_true rfl) rfl ?_
  intro p e s m args below meth c hz hr hlk
  unfold fx_BS_hash
  refine jr_k (fun hq => ?_)
  refine jr_bipush (v := 17) hz d_BS_hash_0 (by decide) ?_
  refine jr_istore_n (lf := [(0, .ref (G.1 q)), (1, .int p1), (2, .int p2)]) hz d_BS_hash_2 rfl (by decide) rfl (fun v1 => ?_)
  refine jr_iconst (v := 0) hz d_BS_hash_3 (by decide) ?_
  refine jr_istore (lf := [(3, .int v1), (0, .ref (G.1 q)), (1, .int p1), (2, .int p2)]) hz d_BS_hash_4 (by decide) rfl (fun v2 => ?_)
  refine jr_sub (ls' := [(0, .ref (G.1 q)), (1, .int p1), (2, .int p2), (3, .int v1), (4, .int v2)]) [2, 3, 4, 1, 0] rfl ?_
  exact jb_BS_hash_b6 hz hr hlk hq sp_fuel p1 p2 v1 v2 X
theorem d_BS_becomeDigest_0 : decode b_BS_becomeDigest 0 = .ok (.aload_n 0, 1) := by decide +kernel
theorem d_BS_becomeDigest_1 : decode b_BS_becomeDigest 1 = .ok (.iconst 0, 1) := by decide +kernel
theorem d_BS_becomeDigest_2 : decode b_BS_becomeDigest 2 = .ok (.putfield 15, 3) := by decide +kernel
theorem d_BS_becomeDigest_5 : decode b_BS_becomeDigest 5 = .ok (.iconst 0, 1) := by decide +kernel
theorem d_BS_becomeDigest_6 : decode b_BS_becomeDigest 6 = .ok (.istore_n 2, 1) := by decide +kernel
theorem d_BS_becomeDigest_7 : decode b_BS_becomeDigest 7 = .ok (.iload_n 2, 1) := by decide +kernel
theorem d_BS_becomeDigest_8 : decode b_BS_becomeDigest 8 = .ok (.bipush 32, 2) := by decide +kernel
theorem d_BS_becomeDigest_10 : decode b_BS_becomeDigest 10 = .ok (.if_icmp .ge 17, 3) := by decide +kernel
theorem d_BS_becomeDigest_13 : decode b_BS_becomeDigest 13 = .ok (.aload_n 0, 1) := by decide +kernel
theorem d_BS_becomeDigest_14 : decode b_BS_becomeDigest 14 = .ok (.iload_n 1, 1) := by decide +kernel
theorem d_BS_becomeDigest_15 : decode b_BS_becomeDigest 15 = .ok (.iload_n 2, 1) := by decide +kernel
theorem d_BS_becomeDigest_16 : decode b_BS_becomeDigest 16 = .ok (.iushr, 1) := by decide +kernel
theorem d_BS_becomeDigest_17 : decode b_BS_becomeDigest 17 = .ok (.invokevirtual 35, 3) := by decide +kernel
theorem d_BS_becomeDigest_20 : decode b_BS_becomeDigest 20 = .ok (.pop, 1) := by decide +kernel
theorem d_BS_becomeDigest_21 : decode b_BS_becomeDigest 21 = .ok (.iinc 2 8, 3) := by decide +kernel
theorem d_BS_becomeDigest_24 : decode b_BS_becomeDigest 24 = .ok (.goto (-17), 3) := by decide +kernel
theorem d_BS_becomeDigest_27 : decode b_BS_becomeDigest 27 = .ok (.return_, 1) := by decide +kernel
theorem wv_BS_35 : xh_V "SpendScript$ByteString" 35 0 y_BS_append b_BS_append 2 (some .boolean) 1 := ⟨(sp_tb (List.mem_of_getElem? (i := 173) (by decide +kernel))), (sp_tb (List.mem_of_getElem? (i := 2) (by decide +kernel))), (sp_tb (List.mem_of_getElem? (i := 272) (by decide +kernel))), ⟨by decide +kernel, by decide +kernel, by decide +kernel⟩, (sp_tb (List.mem_of_getElem? (i := 171) (by decide +kernel))), (sp_tb (List.mem_of_getElem? (i := 172) (by decide +kernel))), F_BS, 2, rfl⟩
abbrev rm_BS_becomeDigest : Room := { frames := 1, cells := 0, slots := 0, locals := 21 }
def fx_BS_becomeDigest_b7 (q : Nat) : Nat → Int32 → Int32 → xh_T → Option (Unit × xh_T)
  | 0, _, _, _ => none
  | n + 1, a1, a2, X => if 32 ≤ a2 then
  some ((), X)
  else xh_b (fx_BS_append q (xh_ush a1 a2) X) (fun (r3 : Int32) (X2 : xh_T) =>
  xh_n (a2 + 8) (fun v6 : Int32 =>
  fx_BS_becomeDigest_b7 q n a1 v6 X2))
set_option maxRecDepth 100000 in
set_option maxHeartbeats 4000000 in
theorem jb_BS_becomeDigest_b7 {p : Program} {l : Launch} {e : Env} {s : State} {m : MethodId} {args : Array Value} {below : List Frame} {meth : Method} {c : Code} {D : va_G} {G : xh_G} {q : Nat} (hz : xh_C p s m args c b_BS_becomeDigest 3 "SpendScript$ByteString" D G (xh_A G s.heap.size)) (hr : meth.sig.returnType = none) (hlk : meth.locks = false) (hq : sp_bs q = true) : ∀ (n : Nat) (a1 : Int32) (a2 : Int32) (X : xh_T), xh_J p l e rm_BS_becomeDigest s m args below meth c 0 0 D G (xh_A G s.heap.size) 3 (fun r X' => MQ below (xh_Qv D G (xh_A G s.heap.size) r X') args s 0 0 (xh_A G s.heap.size)) 7 [(0, .ref (G.1 q)), (1, .int a1), (2, .int a2)] [] X (fx_BS_becomeDigest_b7 q n a1 a2 X) := by
  intro n
  induction n with
  | zero => intro a1 a2 X; exact jr_none
  | succ n ih =>
    intro a1 a2 X
    rw [fx_BS_becomeDigest_b7]
    refine jr_iload_n hz d_BS_becomeDigest_7 rfl 2 rfl ?_
    refine jr_bipush (v := 32) hz d_BS_becomeDigest_8 (by decide) ?_
    refine jr_icmp_ge (tgt := 27) hz d_BS_becomeDigest_10 (by decide) ?_ ?_
    · exact jr_vret hz hr hlk d_BS_becomeDigest_27
    · refine jr_aload_n hz d_BS_becomeDigest_13 rfl 0 rfl ?_
      refine jr_iload_n hz d_BS_becomeDigest_14 rfl 1 rfl ?_
      refine jr_iload_n hz d_BS_becomeDigest_15 rfl 2 rfl ?_
      refine jr_iushr hz d_BS_becomeDigest_16 ?_
      refine jr_callVi (As := [.int (xh_ush a1 a2)]) (a := q) (ci := 0) (st := []) hz (cx_BS_append l D G hz.2.2.2.2.2.2.1 q (xh_ush a1 a2) X) (fun z h => sp_bs_v (xh_k_t h)) wv_BS_35 ⟨rfl, rfl, Nat.le_of_ble_eq_true rfl, Nat.le_of_ble_eq_true rfl⟩ ⟨Nat.zero_le _, Nat.zero_le _⟩ rfl rfl (Nat.le_of_ble_eq_true rfl) d_BS_becomeDigest_17 (fun r3 X2 => ?_)
      refine jr_pop hz d_BS_becomeDigest_20 rfl ?_
      refine jr_iinc (lf := [(0, .ref (G.1 q)), (1, .int a1)]) (w := 8) hz d_BS_becomeDigest_21 2 rfl (by decide) (by decide) rfl (fun v6 => ?_)
      refine jr_goto (tgt := 7) hz d_BS_becomeDigest_24 (by decide) ?_
      refine jr_sub (ls' := [(0, .ref (G.1 q)), (1, .int a1), (2, .int v6)]) [1, 2, 0] rfl ?_
      exact ih a1 v6 X2
def fx_BS_becomeDigest (q : Nat) (p1 : Int32) (X : xh_T) : Option (Unit × xh_T) :=
  xh_k (sp_bs q) (
  xh_n (xh_i X q 1 0) (fun X1 : xh_T =>
  xh_n 0 (fun v1 : Int32 =>
  fx_BS_becomeDigest_b7 q sp_fuel p1 v1 X1)))
set_option maxRecDepth 100000 in
set_option maxHeartbeats 4000000 in
theorem cx_BS_becomeDigest (l : Launch) (D : va_G) (G : xh_G) (hD : xh_D G) (q : Nat) (p1 : Int32) (X : xh_T) : xh_M xh_Qv l D G y_BS_becomeDigest b_BS_becomeDigest 3 none rm_BS_becomeDigest [.ref (G.1 q), .int p1] X (fx_BS_becomeDigest q p1 X) := by
  refine xh_enter (ls := [(0, .ref (G.1 q)), (1, .int p1)]) hD (by decide +kernel) (Nat.le_of_ble_eq_true rfl) rfl ?_
  intro p e s m args below meth c hz hr hlk
  unfold fx_BS_becomeDigest
  refine jr_k (fun hq => ?_)
  refine jr_aload_n hz d_BS_becomeDigest_0 rfl 0 rfl ?_
  refine jr_iconst (v := 0) hz d_BS_becomeDigest_1 (by decide) ?_
  refine jr_puti hz (sp_bs_lt hq) (sp_bs_of hq).2.1 rfl wp_BS_15 d_BS_becomeDigest_2 (fun X1 => ?_)
  refine jr_iconst (v := 0) hz d_BS_becomeDigest_5 (by decide) ?_
  refine jr_istore_n (lf := [(0, .ref (G.1 q)), (1, .int p1)]) hz d_BS_becomeDigest_6 rfl (by decide) rfl (fun v1 => ?_)
  refine jr_sub (ls' := [(0, .ref (G.1 q)), (1, .int p1), (2, .int v1)]) [1, 2, 0] rfl ?_
  exact jb_BS_becomeDigest_b7 hz hr hlk hq sp_fuel p1 v1 X1
theorem d_BS_isTrue_0 : decode b_BS_isTrue 0 = .ok (.iconst 0, 1) := by decide +kernel
theorem d_BS_isTrue_1 : decode b_BS_isTrue 1 = .ok (.istore_n 1, 1) := by decide +kernel
theorem d_BS_isTrue_2 : decode b_BS_isTrue 2 = .ok (.iload_n 1, 1) := by decide +kernel
theorem d_BS_isTrue_3 : decode b_BS_isTrue 3 = .ok (.aload_n 0, 1) := by decide +kernel
theorem d_BS_isTrue_4 : decode b_BS_isTrue 4 = .ok (.getfield 15, 3) := by decide +kernel
theorem d_BS_isTrue_7 : decode b_BS_isTrue 7 = .ok (.if_icmp .ge 52, 3) := by decide +kernel
theorem d_BS_isTrue_10 : decode b_BS_isTrue 10 = .ok (.iload_n 1, 1) := by decide +kernel
theorem d_BS_isTrue_11 : decode b_BS_isTrue 11 = .ok (.aload_n 0, 1) := by decide +kernel
theorem d_BS_isTrue_12 : decode b_BS_isTrue 12 = .ok (.getfield 15, 3) := by decide +kernel
theorem d_BS_isTrue_15 : decode b_BS_isTrue 15 = .ok (.iconst 1, 1) := by decide +kernel
theorem d_BS_isTrue_16 : decode b_BS_isTrue 16 = .ok (.isub, 1) := by decide +kernel
theorem d_BS_isTrue_17 : decode b_BS_isTrue 17 = .ok (.if_icmp .ne 19, 3) := by decide +kernel
theorem d_BS_isTrue_20 : decode b_BS_isTrue 20 = .ok (.aload_n 0, 1) := by decide +kernel
theorem d_BS_isTrue_21 : decode b_BS_isTrue 21 = .ok (.getfield 9, 3) := by decide +kernel
theorem d_BS_isTrue_24 : decode b_BS_isTrue 24 = .ok (.iload_n 1, 1) := by decide +kernel
theorem d_BS_isTrue_25 : decode b_BS_isTrue 25 = .ok (.iaload, 1) := by decide +kernel
theorem d_BS_isTrue_26 : decode b_BS_isTrue 26 = .ok (.sipush 128, 3) := by decide +kernel
theorem d_BS_isTrue_29 : decode b_BS_isTrue 29 = .ok (.if_icmp .ne 7, 3) := by decide +kernel
theorem d_BS_isTrue_32 : decode b_BS_isTrue 32 = .ok (.iconst 1, 1) := by decide +kernel
theorem d_BS_isTrue_33 : decode b_BS_isTrue 33 = .ok (.goto 4, 3) := by decide +kernel
theorem d_BS_isTrue_36 : decode b_BS_isTrue 36 = .ok (.iconst 0, 1) := by decide +kernel
theorem d_BS_isTrue_37 : decode b_BS_isTrue 37 = .ok (.istore_n 2, 1) := by decide +kernel
theorem d_BS_isTrue_38 : decode b_BS_isTrue 38 = .ok (.aload_n 0, 1) := by decide +kernel
theorem d_BS_isTrue_39 : decode b_BS_isTrue 39 = .ok (.getfield 9, 3) := by decide +kernel
theorem d_BS_isTrue_42 : decode b_BS_isTrue 42 = .ok (.iload_n 1, 1) := by decide +kernel
theorem d_BS_isTrue_43 : decode b_BS_isTrue 43 = .ok (.iaload, 1) := by decide +kernel
theorem d_BS_isTrue_44 : decode b_BS_isTrue 44 = .ok (.ifCond .eq 9, 3) := by decide +kernel
theorem d_BS_isTrue_47 : decode b_BS_isTrue 47 = .ok (.iload_n 2, 1) := by decide +kernel
theorem d_BS_isTrue_48 : decode b_BS_isTrue 48 = .ok (.ifCond .ne 5, 3) := by decide +kernel
theorem d_BS_isTrue_51 : decode b_BS_isTrue 51 = .ok (.iconst 1, 1) := by decide +kernel
theorem d_BS_isTrue_52 : decode b_BS_isTrue 52 = .ok (.ireturn, 1) := by decide +kernel
theorem d_BS_isTrue_53 : decode b_BS_isTrue 53 = .ok (.iinc 1 1, 3) := by decide +kernel
theorem d_BS_isTrue_56 : decode b_BS_isTrue 56 = .ok (.goto (-54), 3) := by decide +kernel
theorem d_BS_isTrue_59 : decode b_BS_isTrue 59 = .ok (.iconst 0, 1) := by decide +kernel
theorem d_BS_isTrue_60 : decode b_BS_isTrue 60 = .ok (.ireturn, 1) := by decide +kernel
abbrev rm_BS_isTrue : Room := { frames := 0, cells := 0, slots := 0, locals := 0 }
def fx_BS_isTrue_b37 (q : Nat) (lp2 : Int32 → xh_T → Option (Int32 × xh_T)) (a1 : Int32) (s0 : Int32) (X : xh_T) : Option (Int32 × xh_T) :=
  xh_n s0 (fun v2 : Int32 =>
  xh_o a1 (sp_len (q + 1)) (if (X.1 (q + 1) a1.toNatClampNeg) = 0 then
  xh_n (a1 + 1) (fun v3 : Int32 =>
  lp2 v3 X)
  else if v2 = 0 then
  some (1, X)
  else xh_n (a1 + 1) (fun v4 : Int32 =>
  lp2 v4 X)))
set_option maxRecDepth 100000 in
set_option maxHeartbeats 4000000 in
theorem jb_BS_isTrue_b37 {p : Program} {l : Launch} {e : Env} {s : State} {m : MethodId} {args : Array Value} {below : List Frame} {meth : Method} {c : Code} {D : va_G} {G : xh_G} {q : Nat} (hz : xh_C p s m args c b_BS_isTrue 3 "SpendScript$ByteString" D G (xh_A G s.heap.size)) (hr : meth.sig.returnType = (some .boolean)) (hlk : meth.locks = false) (hq : sp_bs q = true) (lp2 : Int32 → xh_T → Option (Int32 × xh_T)) (hlp2 : ∀ (a1 : Int32) (X : xh_T), xh_J p l e rm_BS_isTrue s m args below meth c 0 0 D G (xh_A G s.heap.size) 3 (fun r X' => MQ below (xh_Qi D G (xh_A G s.heap.size) r X') args s 0 0 (xh_A G s.heap.size)) 2 [(0, .ref (G.1 q)), (1, .int a1)] [] X (lp2 a1 X)) (a1 : Int32) (s0 : Int32) (X : xh_T) : xh_J p l e rm_BS_isTrue s m args below meth c 0 0 D G (xh_A G s.heap.size) 3 (fun r X' => MQ below (xh_Qi D G (xh_A G s.heap.size) r X') args s 0 0 (xh_A G s.heap.size)) 37 [(0, .ref (G.1 q)), (1, .int a1)] [.int s0] X (fx_BS_isTrue_b37 q lp2 a1 s0 X) := by
  unfold fx_BS_isTrue_b37
  refine jr_istore_n (lf := [(0, .ref (G.1 q)), (1, .int a1)]) hz d_BS_isTrue_37 rfl (by decide) rfl (fun v2 => ?_)
  refine jr_aload_n hz d_BS_isTrue_38 rfl 1 rfl ?_
  refine jr_getr (j := 0) (t := (q + 1)) hz (sp_bs_lt hq) (sp_bs_of hq).2.1 rfl wf_BS_9 d_BS_isTrue_39 ?_
  refine jr_iload_n hz d_BS_isTrue_42 rfl 2 rfl ?_
  refine jr_iald (n := (sp_len (q + 1))) hz (sp_bs_of hq).1 (sp_bs_of hq).2.2 d_BS_isTrue_43 ?_
  refine jr_if_eq (tgt := 53) hz d_BS_isTrue_44 (by decide) ?_ ?_
  · refine jr_iinc (lf := [(2, .int v2), (0, .ref (G.1 q))]) (w := 1) hz d_BS_isTrue_53 2 rfl (by decide) (by decide) rfl (fun v3 => ?_)
    refine jr_goto (tgt := 2) hz d_BS_isTrue_56 (by decide) ?_
    refine jr_sub (ls' := [(0, .ref (G.1 q)), (1, .int v3)]) [2, 0] rfl ?_
    exact hlp2 v3 X
  · refine jr_iload_n hz d_BS_isTrue_47 rfl 0 rfl ?_
    refine jr_if_ne (tgt := 53) hz d_BS_isTrue_48 (by decide) ?_ ?_
    · refine jr_iinc (lf := [(2, .int v2), (0, .ref (G.1 q))]) (w := 1) hz d_BS_isTrue_53 2 rfl (by decide) (by decide) rfl (fun v4 => ?_)
      refine jr_goto (tgt := 2) hz d_BS_isTrue_56 (by decide) ?_
      refine jr_sub (ls' := [(0, .ref (G.1 q)), (1, .int v4)]) [2, 0] rfl ?_
      exact hlp2 v4 X
    · refine jr_iconst (v := 1) hz d_BS_isTrue_51 (by decide) ?_
      exact jr_zret hz hr hlk (by decide) d_BS_isTrue_52
def fx_BS_isTrue_b36 (q : Nat) (lp2 : Int32 → xh_T → Option (Int32 × xh_T)) (a1 : Int32) (X : xh_T) : Option (Int32 × xh_T) :=
  fx_BS_isTrue_b37 q lp2 a1 0 X
set_option maxRecDepth 100000 in
set_option maxHeartbeats 4000000 in
theorem jb_BS_isTrue_b36 {p : Program} {l : Launch} {e : Env} {s : State} {m : MethodId} {args : Array Value} {below : List Frame} {meth : Method} {c : Code} {D : va_G} {G : xh_G} {q : Nat} (hz : xh_C p s m args c b_BS_isTrue 3 "SpendScript$ByteString" D G (xh_A G s.heap.size)) (hr : meth.sig.returnType = (some .boolean)) (hlk : meth.locks = false) (hq : sp_bs q = true) (lp2 : Int32 → xh_T → Option (Int32 × xh_T)) (hlp2 : ∀ (a1 : Int32) (X : xh_T), xh_J p l e rm_BS_isTrue s m args below meth c 0 0 D G (xh_A G s.heap.size) 3 (fun r X' => MQ below (xh_Qi D G (xh_A G s.heap.size) r X') args s 0 0 (xh_A G s.heap.size)) 2 [(0, .ref (G.1 q)), (1, .int a1)] [] X (lp2 a1 X)) (a1 : Int32) (X : xh_T) : xh_J p l e rm_BS_isTrue s m args below meth c 0 0 D G (xh_A G s.heap.size) 3 (fun r X' => MQ below (xh_Qi D G (xh_A G s.heap.size) r X') args s 0 0 (xh_A G s.heap.size)) 36 [(0, .ref (G.1 q)), (1, .int a1)] [] X (fx_BS_isTrue_b36 q lp2 a1 X) := by
  unfold fx_BS_isTrue_b36
  refine jr_iconst (v := 0) hz d_BS_isTrue_36 (by decide) ?_
  refine jr_sub (ls' := [(0, .ref (G.1 q)), (1, .int a1)]) [0, 1] rfl ?_
  exact jb_BS_isTrue_b37 hz hr hlk hq lp2 hlp2 a1 0 X
def fx_BS_isTrue_b2 (q : Nat) : Nat → Int32 → xh_T → Option (Int32 × xh_T)
  | 0, _, _ => none
  | n + 1, a1, X => if X.1 q 1 ≤ a1 then
  some (0, X)
  else if a1 = (X.1 q 1 - 1) then
  xh_o a1 (sp_len (q + 1)) (if (X.1 (q + 1) a1.toNatClampNeg) = 128 then
  fx_BS_isTrue_b37 q (fun z0 Z => fx_BS_isTrue_b2 q n z0 Z) a1 1 X
  else fx_BS_isTrue_b36 q (fun z0 Z => fx_BS_isTrue_b2 q n z0 Z) a1 X)
  else fx_BS_isTrue_b36 q (fun z0 Z => fx_BS_isTrue_b2 q n z0 Z) a1 X
set_option maxRecDepth 100000 in
set_option maxHeartbeats 4000000 in
theorem jb_BS_isTrue_b2 {p : Program} {l : Launch} {e : Env} {s : State} {m : MethodId} {args : Array Value} {below : List Frame} {meth : Method} {c : Code} {D : va_G} {G : xh_G} {q : Nat} (hz : xh_C p s m args c b_BS_isTrue 3 "SpendScript$ByteString" D G (xh_A G s.heap.size)) (hr : meth.sig.returnType = (some .boolean)) (hlk : meth.locks = false) (hq : sp_bs q = true) : ∀ (n : Nat) (a1 : Int32) (X : xh_T), xh_J p l e rm_BS_isTrue s m args below meth c 0 0 D G (xh_A G s.heap.size) 3 (fun r X' => MQ below (xh_Qi D G (xh_A G s.heap.size) r X') args s 0 0 (xh_A G s.heap.size)) 2 [(0, .ref (G.1 q)), (1, .int a1)] [] X (fx_BS_isTrue_b2 q n a1 X) := by
  intro n
  induction n with
  | zero => intro a1 X; exact jr_none
  | succ n ih =>
    intro a1 X
    rw [fx_BS_isTrue_b2]
    refine jr_iload_n hz d_BS_isTrue_2 rfl 1 rfl ?_
    refine jr_aload_n hz d_BS_isTrue_3 rfl 0 rfl ?_
    refine jr_geti (j := 1) hz (sp_bs_lt hq) (sp_bs_of hq).2.1 rfl wf_BS_15 d_BS_isTrue_4 ?_
    refine jr_icmp_ge (tgt := 59) hz d_BS_isTrue_7 (by decide) ?_ ?_
    · refine jr_iconst (v := 0) hz d_BS_isTrue_59 (by decide) ?_
      exact jr_zret hz hr hlk (by decide) d_BS_isTrue_60
    · refine jr_iload_n hz d_BS_isTrue_10 rfl 1 rfl ?_
      refine jr_aload_n hz d_BS_isTrue_11 rfl 0 rfl ?_
      refine jr_geti (j := 1) hz (sp_bs_lt hq) (sp_bs_of hq).2.1 rfl wf_BS_15 d_BS_isTrue_12 ?_
      refine jr_iconst (v := 1) hz d_BS_isTrue_15 (by decide) ?_
      refine jr_isub hz d_BS_isTrue_16 ?_
      refine jr_icmp_ne (tgt := 36) hz d_BS_isTrue_17 (by decide) ?_ ?_
      · refine jr_sub (ls' := [(0, .ref (G.1 q)), (1, .int a1)]) [0, 1] rfl ?_
        exact jb_BS_isTrue_b36 hz hr hlk hq (fun z0 Z => fx_BS_isTrue_b2 q n z0 Z) (fun z0 Z => ih z0 Z) a1 X
      · refine jr_aload_n hz d_BS_isTrue_20 rfl 0 rfl ?_
        refine jr_getr (j := 0) (t := (q + 1)) hz (sp_bs_lt hq) (sp_bs_of hq).2.1 rfl wf_BS_9 d_BS_isTrue_21 ?_
        refine jr_iload_n hz d_BS_isTrue_24 rfl 1 rfl ?_
        refine jr_iald (n := (sp_len (q + 1))) hz (sp_bs_of hq).1 (sp_bs_of hq).2.2 d_BS_isTrue_25 ?_
        refine jr_sipush (v := 128) hz d_BS_isTrue_26 (by decide) ?_
        refine jr_icmp_ne (tgt := 36) hz d_BS_isTrue_29 (by decide) ?_ ?_
        · refine jr_sub (ls' := [(0, .ref (G.1 q)), (1, .int a1)]) [0, 1] rfl ?_
          exact jb_BS_isTrue_b36 hz hr hlk hq (fun z0 Z => fx_BS_isTrue_b2 q n z0 Z) (fun z0 Z => ih z0 Z) a1 X
        · refine jr_iconst (v := 1) hz d_BS_isTrue_32 (by decide) ?_
          refine jr_goto (tgt := 37) hz d_BS_isTrue_33 (by decide) ?_
          refine jr_sub (ls' := [(0, .ref (G.1 q)), (1, .int a1)]) [0, 1] rfl ?_
          exact jb_BS_isTrue_b37 hz hr hlk hq (fun z0 Z => fx_BS_isTrue_b2 q n z0 Z) (fun z0 Z => ih z0 Z) a1 1 X
def fx_BS_isTrue (q : Nat) (X : xh_T) : Option (Int32 × xh_T) :=
  xh_k (sp_bs q) (
  xh_n 0 (fun v1 : Int32 =>
  fx_BS_isTrue_b2 q sp_fuel v1 X))
set_option maxRecDepth 100000 in
set_option maxHeartbeats 4000000 in
theorem cx_BS_isTrue (l : Launch) (D : va_G) (G : xh_G) (hD : xh_D G) (q : Nat) (X : xh_T) : xh_M xh_Qi l D G y_BS_isTrue b_BS_isTrue 3 (some .boolean) rm_BS_isTrue [.ref (G.1 q)] X (fx_BS_isTrue q X) := by
  refine xh_enter (ls := [(0, .ref (G.1 q))]) hD (by decide +kernel) (Nat.le_of_ble_eq_true rfl) rfl ?_
  intro p e s m args below meth c hz hr hlk
  unfold fx_BS_isTrue
  refine jr_k (fun hq => ?_)
  refine jr_iconst (v := 0) hz d_BS_isTrue_0 (by decide) ?_
  refine jr_istore_n (lf := [(0, .ref (G.1 q))]) hz d_BS_isTrue_1 rfl (by decide) rfl (fun v1 => ?_)
  refine jr_sub (ls' := [(0, .ref (G.1 q)), (1, .int v1)]) [1, 0] rfl ?_
  exact jb_BS_isTrue_b2 hz hr hlk hq sp_fuel v1 X
theorem d_BS_isNumber_0 : decode b_BS_isNumber 0 = .ok (.aload_n 0, 1) := by decide +kernel
theorem d_BS_isNumber_1 : decode b_BS_isNumber 1 = .ok (.getfield 15, 3) := by decide +kernel
theorem d_BS_isNumber_4 : decode b_BS_isNumber 4 = .ok (.iconst 4, 1) := by decide +kernel
theorem d_BS_isNumber_5 : decode b_BS_isNumber 5 = .ok (.if_icmp .gt 7, 3) := by decide +kernel
theorem d_BS_isNumber_8 : decode b_BS_isNumber 8 = .ok (.iconst 1, 1) := by decide +kernel
theorem d_BS_isNumber_9 : decode b_BS_isNumber 9 = .ok (.goto 4, 3) := by decide +kernel
theorem d_BS_isNumber_12 : decode b_BS_isNumber 12 = .ok (.iconst 0, 1) := by decide +kernel
theorem d_BS_isNumber_13 : decode b_BS_isNumber 13 = .ok (.ireturn, 1) := by decide +kernel
abbrev rm_BS_isNumber : Room := { frames := 0, cells := 0, slots := 0, locals := 0 }
def fx_BS_isNumber (q : Nat) (X : xh_T) : Option (Int32 × xh_T) :=
  xh_k (sp_bs q) (
  if 4 < X.1 q 1 then
  some (0, X)
  else some (1, X))
set_option maxRecDepth 100000 in
set_option maxHeartbeats 4000000 in
theorem cx_BS_isNumber (l : Launch) (D : va_G) (G : xh_G) (hD : xh_D G) (q : Nat) (X : xh_T) : xh_M xh_Qi l D G y_BS_isNumber b_BS_isNumber 1 (some .boolean) rm_BS_isNumber [.ref (G.1 q)] X (fx_BS_isNumber q X) := by
  refine xh_enter (ls := [(0, .ref (G.1 q))]) hD (by decide +kernel) (Nat.le_of_ble_eq_true rfl) rfl ?_
  intro p e s m args below meth c hz hr hlk
  unfold fx_BS_isNumber
  refine jr_k (fun hq => ?_)
  refine jr_aload_n hz d_BS_isNumber_0 rfl 0 rfl ?_
  refine jr_geti (j := 1) hz (sp_bs_lt hq) (sp_bs_of hq).2.1 rfl wf_BS_15 d_BS_isNumber_1 ?_
  refine jr_iconst (v := 4) hz d_BS_isNumber_4 (by decide) ?_
  refine jr_icmp_gt (tgt := 12) hz d_BS_isNumber_5 (by decide) ?_ ?_
  · refine jr_iconst (v := 0) hz d_BS_isNumber_12 (by decide) ?_
    exact jr_zret hz hr hlk (by decide) d_BS_isNumber_13
  · refine jr_iconst (v := 1) hz d_BS_isNumber_8 (by decide) ?_
    refine jr_goto (tgt := 13) hz d_BS_isNumber_9 (by decide) ?_
    exact jr_zret hz hr hlk (by decide) d_BS_isNumber_13
end
section
/-! printed by wip/whole/gen_walks.py -/
theorem d_BS_number_0 : decode b_BS_number 0 = .ok (.aload_n 0, 1) := by decide +kernel
theorem d_BS_number_1 : decode b_BS_number 1 = .ok (.getfield 15, 3) := by decide +kernel
theorem d_BS_number_4 : decode b_BS_number 4 = .ok (.ifCond .eq 10, 3) := by decide +kernel
theorem d_BS_number_7 : decode b_BS_number 7 = .ok (.aload_n 0, 1) := by decide +kernel
theorem d_BS_number_8 : decode b_BS_number 8 = .ok (.invokevirtual 39, 3) := by decide +kernel
theorem d_BS_number_11 : decode b_BS_number 11 = .ok (.ifCond .ne 5, 3) := by decide +kernel
theorem d_BS_number_14 : decode b_BS_number 14 = .ok (.lconst 0, 1) := by decide +kernel
theorem d_BS_number_15 : decode b_BS_number 15 = .ok (.lreturn, 1) := by decide +kernel
theorem d_BS_number_16 : decode b_BS_number 16 = .ok (.aload_n 0, 1) := by decide +kernel
theorem d_BS_number_17 : decode b_BS_number 17 = .ok (.getfield 9, 3) := by decide +kernel
theorem d_BS_number_20 : decode b_BS_number 20 = .ok (.aload_n 0, 1) := by decide +kernel
theorem d_BS_number_21 : decode b_BS_number 21 = .ok (.getfield 15, 3) := by decide +kernel
theorem d_BS_number_24 : decode b_BS_number 24 = .ok (.iconst 1, 1) := by decide +kernel
theorem d_BS_number_25 : decode b_BS_number 25 = .ok (.isub, 1) := by decide +kernel
theorem d_BS_number_26 : decode b_BS_number 26 = .ok (.iaload, 1) := by decide +kernel
theorem d_BS_number_27 : decode b_BS_number 27 = .ok (.bipush 127, 2) := by decide +kernel
theorem d_BS_number_29 : decode b_BS_number 29 = .ok (.iand, 1) := by decide +kernel
theorem d_BS_number_30 : decode b_BS_number 30 = .ok (.i2l, 1) := by decide +kernel
theorem d_BS_number_31 : decode b_BS_number 31 = .ok (.lstore_n 1, 1) := by decide +kernel
theorem d_BS_number_32 : decode b_BS_number 32 = .ok (.aload_n 0, 1) := by decide +kernel
theorem d_BS_number_33 : decode b_BS_number 33 = .ok (.getfield 15, 3) := by decide +kernel
theorem d_BS_number_36 : decode b_BS_number 36 = .ok (.iconst 2, 1) := by decide +kernel
theorem d_BS_number_37 : decode b_BS_number 37 = .ok (.isub, 1) := by decide +kernel
theorem d_BS_number_38 : decode b_BS_number 38 = .ok (.istore_n 3, 1) := by decide +kernel
theorem d_BS_number_39 : decode b_BS_number 39 = .ok (.iload_n 3, 1) := by decide +kernel
theorem d_BS_number_40 : decode b_BS_number 40 = .ok (.ifCond .lt 23, 3) := by decide +kernel
theorem d_BS_number_43 : decode b_BS_number 43 = .ok (.lload_n 1, 1) := by decide +kernel
theorem d_BS_number_44 : decode b_BS_number 44 = .ok (.ldc2_w 43, 3) := by decide +kernel
theorem d_BS_number_47 : decode b_BS_number 47 = .ok (.lmul, 1) := by decide +kernel
theorem d_BS_number_48 : decode b_BS_number 48 = .ok (.aload_n 0, 1) := by decide +kernel
theorem d_BS_number_49 : decode b_BS_number 49 = .ok (.getfield 9, 3) := by decide +kernel
theorem d_BS_number_52 : decode b_BS_number 52 = .ok (.iload_n 3, 1) := by decide +kernel
theorem d_BS_number_53 : decode b_BS_number 53 = .ok (.iaload, 1) := by decide +kernel
theorem d_BS_number_54 : decode b_BS_number 54 = .ok (.i2l, 1) := by decide +kernel
theorem d_BS_number_55 : decode b_BS_number 55 = .ok (.ladd, 1) := by decide +kernel
theorem d_BS_number_56 : decode b_BS_number 56 = .ok (.lstore_n 1, 1) := by decide +kernel
theorem d_BS_number_57 : decode b_BS_number 57 = .ok (.iinc 3 (-1), 3) := by decide +kernel
theorem d_BS_number_60 : decode b_BS_number 60 = .ok (.goto (-21), 3) := by decide +kernel
theorem d_BS_number_63 : decode b_BS_number 63 = .ok (.aload_n 0, 1) := by decide +kernel
theorem d_BS_number_64 : decode b_BS_number 64 = .ok (.getfield 9, 3) := by decide +kernel
theorem d_BS_number_67 : decode b_BS_number 67 = .ok (.aload_n 0, 1) := by decide +kernel
theorem d_BS_number_68 : decode b_BS_number 68 = .ok (.getfield 15, 3) := by decide +kernel
theorem d_BS_number_71 : decode b_BS_number 71 = .ok (.iconst 1, 1) := by decide +kernel
theorem d_BS_number_72 : decode b_BS_number 72 = .ok (.isub, 1) := by decide +kernel
theorem d_BS_number_73 : decode b_BS_number 73 = .ok (.iaload, 1) := by decide +kernel
theorem d_BS_number_74 : decode b_BS_number 74 = .ok (.sipush 128, 3) := by decide +kernel
theorem d_BS_number_77 : decode b_BS_number 77 = .ok (.if_icmp .lt 8, 3) := by decide +kernel
theorem d_BS_number_80 : decode b_BS_number 80 = .ok (.lload_n 1, 1) := by decide +kernel
theorem d_BS_number_81 : decode b_BS_number 81 = .ok (.lneg, 1) := by decide +kernel
theorem d_BS_number_82 : decode b_BS_number 82 = .ok (.goto 4, 3) := by decide +kernel
theorem d_BS_number_85 : decode b_BS_number 85 = .ok (.lload_n 1, 1) := by decide +kernel
theorem d_BS_number_86 : decode b_BS_number 86 = .ok (.lreturn, 1) := by decide +kernel
theorem wv_BS_39 : xh_V "SpendScript$ByteString" 39 0 y_BS_isNumber b_BS_isNumber 1 (some .boolean) 0 := ⟨(sp_tb (List.mem_of_getElem? (i := 346) (by decide +kernel))), (sp_tb (List.mem_of_getElem? (i := 2) (by decide +kernel))), (sp_tb (List.mem_of_getElem? (i := 351) (by decide +kernel))), ⟨by decide +kernel, by decide +kernel, by decide +kernel⟩, (sp_tb (List.mem_of_getElem? (i := 344) (by decide +kernel))), (sp_tb (List.mem_of_getElem? (i := 345) (by decide +kernel))), F_BS, 2, rfl⟩
theorem wk_BS_43 : Cond.constantLong "SpendScript$ByteString" 43 256 ∈ sp_ws := (sp_tb (List.mem_of_getElem? (i := 352) (by decide +kernel)))
abbrev rm_BS_number : Room := { frames := 1, cells := 0, slots := 0, locals := 20 }
def fx_BS_number_b39 (q : Nat) : Nat → Int64 → Int32 → xh_T → Option (Int64 × xh_T)
  | 0, _, _, _ => none
  | n + 1, a1, a3, X => if a3 < 0 then
  xh_o (X.1 q 1 - 1) (sp_len (q + 1)) (if (X.1 (q + 1) ((X.1 q 1 - 1)).toNatClampNeg) < 128 then
  some (a1, X)
  else some ((-a1), X))
  else xh_o a3 (sp_len (q + 1)) (xh_n ((a1 * 256) + (((X.1 (q + 1) a3.toNatClampNeg) : Int32).toInt64)) (fun v7 : Int64 =>
  xh_n (a3 + (-1)) (fun v8 : Int32 =>
  fx_BS_number_b39 q n v7 v8 X)))
set_option maxRecDepth 100000 in
set_option maxHeartbeats 4000000 in
theorem jb_BS_number_b39 {p : Program} {l : Launch} {e : Env} {s : State} {m : MethodId} {args : Array Value} {below : List Frame} {meth : Method} {c : Code} {D : va_G} {G : xh_G} {q : Nat} (hz : xh_C p s m args c b_BS_number 4 "SpendScript$ByteString" D G (xh_A G s.heap.size)) (hr : meth.sig.returnType = (some .long)) (hlk : meth.locks = false) (hq : sp_bs q = true) : ∀ (n : Nat) (a1 : Int64) (a3 : Int32) (X : xh_T), xh_J p l e rm_BS_number s m args below meth c 0 0 D G (xh_A G s.heap.size) 4 (fun r X' => MQ below (xh_Ql D G (xh_A G s.heap.size) r X') args s 0 0 (xh_A G s.heap.size)) 39 [(0, .ref (G.1 q)), (1, .long a1), (3, .int a3)] [] X (fx_BS_number_b39 q n a1 a3 X) := by
  intro n
  induction n with
  | zero => intro a1 a3 X; exact jr_none
  | succ n ih =>
    intro a1 a3 X
    rw [fx_BS_number_b39]
    refine jr_iload_n hz d_BS_number_39 rfl 2 rfl ?_
    refine jr_if_lt (tgt := 63) hz d_BS_number_40 (by decide) ?_ ?_
    · refine jr_aload_n hz d_BS_number_63 rfl 0 rfl ?_
      refine jr_getr (j := 0) (t := (q + 1)) hz (sp_bs_lt hq) (sp_bs_of hq).2.1 rfl wf_BS_9 d_BS_number_64 ?_
      refine jr_aload_n hz d_BS_number_67 rfl 0 rfl ?_
      refine jr_geti (j := 1) hz (sp_bs_lt hq) (sp_bs_of hq).2.1 rfl wf_BS_15 d_BS_number_68 ?_
      refine jr_iconst (v := 1) hz d_BS_number_71 (by decide) ?_
      refine jr_isub hz d_BS_number_72 ?_
      refine jr_iald (n := (sp_len (q + 1))) hz (sp_bs_of hq).1 (sp_bs_of hq).2.2 d_BS_number_73 ?_
      refine jr_sipush (v := 128) hz d_BS_number_74 (by decide) ?_
      refine jr_icmp_lt (tgt := 85) hz d_BS_number_77 (by decide) ?_ ?_
      · refine jr_lload_n hz d_BS_number_85 rfl 1 rfl ?_
        exact jr_lret hz hr hlk d_BS_number_86
      · refine jr_lload_n hz d_BS_number_80 rfl 1 rfl ?_
        refine jr_lneg hz d_BS_number_81 ?_
        refine jr_goto (tgt := 86) hz d_BS_number_82 (by decide) ?_
        exact jr_lret hz hr hlk d_BS_number_86
    · refine jr_lload_n hz d_BS_number_43 rfl 1 rfl ?_
      refine jr_ldc2 (v := 256) hz wk_BS_43 d_BS_number_44 ?_
      refine jr_lmul hz d_BS_number_47 ?_
      refine jr_aload_n hz d_BS_number_48 rfl 0 rfl ?_
      refine jr_getr (j := 0) (t := (q + 1)) hz (sp_bs_lt hq) (sp_bs_of hq).2.1 rfl wf_BS_9 d_BS_number_49 ?_
      refine jr_iload_n hz d_BS_number_52 rfl 2 rfl ?_
      refine jr_iald (n := (sp_len (q + 1))) hz (sp_bs_of hq).1 (sp_bs_of hq).2.2 d_BS_number_53 ?_
      refine jr_i2l hz d_BS_number_54 ?_
      refine jr_ladd hz d_BS_number_55 ?_
      refine jr_lstore_n (lf := [(0, .ref (G.1 q)), (3, .int a3)]) hz d_BS_number_56 rfl (by decide) rfl (fun v7 => ?_)
      refine jr_iinc (lf := [(1, .long v7), (0, .ref (G.1 q))]) (w := (-1)) hz d_BS_number_57 2 rfl (by decide) (by decide) rfl (fun v8 => ?_)
      refine jr_goto (tgt := 39) hz d_BS_number_60 (by decide) ?_
      refine jr_sub (ls' := [(0, .ref (G.1 q)), (1, .long v7), (3, .int v8)]) [2, 1, 0] rfl ?_
      exact ih v7 v8 X
def fx_BS_number (q : Nat) (X : xh_T) : Option (Int64 × xh_T) :=
  xh_k (sp_bs q) (
  if X.1 q 1 = 0 then
  some (0, X)
  else xh_b (fx_BS_isNumber q X) (fun (r2 : Int32) (X1 : xh_T) =>
  if r2 = 0 then
  some (0, X1)
  else xh_o (X1.1 q 1 - 1) (sp_len (q + 1)) (xh_n ((((X1.1 (q + 1) ((X1.1 q 1 - 1)).toNatClampNeg) &&& 127) : Int32).toInt64) (fun v5 : Int64 =>
  xh_n (X1.1 q 1 - 2) (fun v6 : Int32 =>
  fx_BS_number_b39 q sp_fuel v5 v6 X1)))))
set_option maxRecDepth 100000 in
set_option maxHeartbeats 4000000 in
theorem cx_BS_number (l : Launch) (D : va_G) (G : xh_G) (hD : xh_D G) (q : Nat) (X : xh_T) : xh_M xh_Ql l D G y_BS_number b_BS_number 4 (some .long) rm_BS_number [.ref (G.1 q)] X (fx_BS_number q X) := by
  refine xh_enter (ls := [(0, .ref (G.1 q))]) hD (by decide +kernel) (Nat.le_of_ble_eq_true rfl) rfl ?_
  intro p e s m args below meth c hz hr hlk
  unfold fx_BS_number
  refine jr_k (fun hq => ?_)
  refine jr_aload_n hz d_BS_number_0 rfl 0 rfl ?_
  refine jr_geti (j := 1) hz (sp_bs_lt hq) (sp_bs_of hq).2.1 rfl wf_BS_15 d_BS_number_1 ?_
  refine jr_if_eq (tgt := 14) hz d_BS_number_4 (by decide) ?_ ?_
  · refine jr_lconst (v := 0) hz d_BS_number_14 (by decide) ?_
    exact jr_lret hz hr hlk d_BS_number_15
  · refine jr_aload_n hz d_BS_number_7 rfl 0 rfl ?_
    refine jr_callVi (As := []) (a := q) (ci := 0) (st := []) hz (cx_BS_isNumber l D G hz.2.2.2.2.2.2.1 q X) (fun z h => sp_bs_v (xh_k_t h)) wv_BS_39 ⟨rfl, rfl, Nat.le_of_ble_eq_true rfl, Nat.le_of_ble_eq_true rfl⟩ ⟨Nat.zero_le _, Nat.zero_le _⟩ rfl rfl (Nat.le_of_ble_eq_true rfl) d_BS_number_8 (fun r2 X1 => ?_)
    refine jr_if_ne (tgt := 16) hz d_BS_number_11 (by decide) ?_ ?_
    · refine jr_aload_n hz d_BS_number_16 rfl 0 rfl ?_
      refine jr_getr (j := 0) (t := (q + 1)) hz (sp_bs_lt hq) (sp_bs_of hq).2.1 rfl wf_BS_9 d_BS_number_17 ?_
      refine jr_aload_n hz d_BS_number_20 rfl 0 rfl ?_
      refine jr_geti (j := 1) hz (sp_bs_lt hq) (sp_bs_of hq).2.1 rfl wf_BS_15 d_BS_number_21 ?_
      refine jr_iconst (v := 1) hz d_BS_number_24 (by decide) ?_
      refine jr_isub hz d_BS_number_25 ?_
      refine jr_iald (n := (sp_len (q + 1))) hz (sp_bs_of hq).1 (sp_bs_of hq).2.2 d_BS_number_26 ?_
      refine jr_bipush (v := 127) hz d_BS_number_27 (by decide) ?_
      refine jr_iand hz d_BS_number_29 ?_
      refine jr_i2l hz d_BS_number_30 ?_
      refine jr_lstore_n (lf := [(0, .ref (G.1 q))]) hz d_BS_number_31 rfl (by decide) rfl (fun v5 => ?_)
      refine jr_aload_n hz d_BS_number_32 rfl 1 rfl ?_
      refine jr_geti (j := 1) hz (sp_bs_lt hq) (sp_bs_of hq).2.1 rfl wf_BS_15 d_BS_number_33 ?_
      refine jr_iconst (v := 2) hz d_BS_number_36 (by decide) ?_
      refine jr_isub hz d_BS_number_37 ?_
      refine jr_istore_n (lf := [(1, .long v5), (0, .ref (G.1 q))]) hz d_BS_number_38 rfl (by decide) rfl (fun v6 => ?_)
      refine jr_sub (ls' := [(0, .ref (G.1 q)), (1, .long v5), (3, .int v6)]) [2, 1, 0] rfl ?_
      exact jb_BS_number_b39 hz hr hlk hq sp_fuel v5 v6 X1
    · refine jr_lconst (v := 0) hz d_BS_number_14 (by decide) ?_
      exact jr_lret hz hr hlk d_BS_number_15
theorem d_BS_becomeNumber_0 : decode b_BS_becomeNumber 0 = .ok (.aload_n 0, 1) := by decide +kernel
theorem d_BS_becomeNumber_1 : decode b_BS_becomeNumber 1 = .ok (.iconst 0, 1) := by decide +kernel
theorem d_BS_becomeNumber_2 : decode b_BS_becomeNumber 2 = .ok (.putfield 15, 3) := by decide +kernel
theorem d_BS_becomeNumber_5 : decode b_BS_becomeNumber 5 = .ok (.lload_n 1, 1) := by decide +kernel
theorem d_BS_becomeNumber_6 : decode b_BS_becomeNumber 6 = .ok (.invokestatic 45, 3) := by decide +kernel
theorem d_BS_becomeNumber_9 : decode b_BS_becomeNumber 9 = .ok (.lstore_n 3, 1) := by decide +kernel
theorem d_BS_becomeNumber_10 : decode b_BS_becomeNumber 10 = .ok (.iconst 0, 1) := by decide +kernel
theorem d_BS_becomeNumber_11 : decode b_BS_becomeNumber 11 = .ok (.istore 5, 2) := by decide +kernel
theorem d_BS_becomeNumber_13 : decode b_BS_becomeNumber 13 = .ok (.iconst 0, 1) := by decide +kernel
theorem d_BS_becomeNumber_14 : decode b_BS_becomeNumber 14 = .ok (.istore 6, 2) := by decide +kernel
theorem d_BS_becomeNumber_16 : decode b_BS_becomeNumber 16 = .ok (.iload 6, 2) := by decide +kernel
theorem d_BS_becomeNumber_18 : decode b_BS_becomeNumber 18 = .ok (.iconst 5, 1) := by decide +kernel
theorem d_BS_becomeNumber_19 : decode b_BS_becomeNumber 19 = .ok (.if_icmp .ge 35, 3) := by decide +kernel
theorem d_BS_becomeNumber_22 : decode b_BS_becomeNumber 22 = .ok (.lload_n 3, 1) := by decide +kernel
theorem d_BS_becomeNumber_23 : decode b_BS_becomeNumber 23 = .ok (.lconst 0, 1) := by decide +kernel
theorem d_BS_becomeNumber_24 : decode b_BS_becomeNumber 24 = .ok (.lcmp, 1) := by decide +kernel
theorem d_BS_becomeNumber_25 : decode b_BS_becomeNumber 25 = .ok (.ifCond .le 29, 3) := by decide +kernel
theorem d_BS_becomeNumber_28 : decode b_BS_becomeNumber 28 = .ok (.lload_n 3, 1) := by decide +kernel
theorem d_BS_becomeNumber_29 : decode b_BS_becomeNumber 29 = .ok (.ldc2_w 49, 3) := by decide +kernel
theorem d_BS_becomeNumber_32 : decode b_BS_becomeNumber 32 = .ok (.land, 1) := by decide +kernel
theorem d_BS_becomeNumber_33 : decode b_BS_becomeNumber 33 = .ok (.l2i, 1) := by decide +kernel
theorem d_BS_becomeNumber_34 : decode b_BS_becomeNumber 34 = .ok (.istore 5, 2) := by decide +kernel
theorem d_BS_becomeNumber_36 : decode b_BS_becomeNumber 36 = .ok (.aload_n 0, 1) := by decide +kernel
theorem d_BS_becomeNumber_37 : decode b_BS_becomeNumber 37 = .ok (.iload 5, 2) := by decide +kernel
theorem d_BS_becomeNumber_39 : decode b_BS_becomeNumber 39 = .ok (.invokevirtual 35, 3) := by decide +kernel
theorem d_BS_becomeNumber_42 : decode b_BS_becomeNumber 42 = .ok (.pop, 1) := by decide +kernel
theorem d_BS_becomeNumber_43 : decode b_BS_becomeNumber 43 = .ok (.lload_n 3, 1) := by decide +kernel
theorem d_BS_becomeNumber_44 : decode b_BS_becomeNumber 44 = .ok (.bipush 8, 2) := by decide +kernel
theorem d_BS_becomeNumber_46 : decode b_BS_becomeNumber 46 = .ok (.lshr, 1) := by decide +kernel
theorem d_BS_becomeNumber_47 : decode b_BS_becomeNumber 47 = .ok (.lstore_n 3, 1) := by decide +kernel
theorem d_BS_becomeNumber_48 : decode b_BS_becomeNumber 48 = .ok (.iinc 6 1, 3) := by decide +kernel
theorem d_BS_becomeNumber_51 : decode b_BS_becomeNumber 51 = .ok (.goto (-35), 3) := by decide +kernel
theorem d_BS_becomeNumber_54 : decode b_BS_becomeNumber 54 = .ok (.lload_n 1, 1) := by decide +kernel
theorem d_BS_becomeNumber_55 : decode b_BS_becomeNumber 55 = .ok (.lconst 0, 1) := by decide +kernel
theorem d_BS_becomeNumber_56 : decode b_BS_becomeNumber 56 = .ok (.lcmp, 1) := by decide +kernel
theorem d_BS_becomeNumber_57 : decode b_BS_becomeNumber 57 = .ok (.ifCond .ge 9, 3) := by decide +kernel
theorem d_BS_becomeNumber_60 : decode b_BS_becomeNumber 60 = .ok (.sipush 128, 3) := by decide +kernel
theorem d_BS_becomeNumber_63 : decode b_BS_becomeNumber 63 = .ok (.goto 4, 3) := by decide +kernel
theorem d_BS_becomeNumber_66 : decode b_BS_becomeNumber 66 = .ok (.iconst 0, 1) := by decide +kernel
theorem d_BS_becomeNumber_67 : decode b_BS_becomeNumber 67 = .ok (.istore 6, 2) := by decide +kernel
theorem d_BS_becomeNumber_69 : decode b_BS_becomeNumber 69 = .ok (.iload 5, 2) := by decide +kernel
theorem d_BS_becomeNumber_71 : decode b_BS_becomeNumber 71 = .ok (.sipush 128, 3) := by decide +kernel
theorem d_BS_becomeNumber_74 : decode b_BS_becomeNumber 74 = .ok (.if_icmp .lt 13, 3) := by decide +kernel
theorem d_BS_becomeNumber_77 : decode b_BS_becomeNumber 77 = .ok (.aload_n 0, 1) := by decide +kernel
theorem d_BS_becomeNumber_78 : decode b_BS_becomeNumber 78 = .ok (.iload 6, 2) := by decide +kernel
theorem d_BS_becomeNumber_80 : decode b_BS_becomeNumber 80 = .ok (.invokevirtual 35, 3) := by decide +kernel
theorem d_BS_becomeNumber_83 : decode b_BS_becomeNumber 83 = .ok (.pop, 1) := by decide +kernel
theorem d_BS_becomeNumber_84 : decode b_BS_becomeNumber 84 = .ok (.goto 26, 3) := by decide +kernel
theorem d_BS_becomeNumber_87 : decode b_BS_becomeNumber 87 = .ok (.aload_n 0, 1) := by decide +kernel
theorem d_BS_becomeNumber_88 : decode b_BS_becomeNumber 88 = .ok (.getfield 15, 3) := by decide +kernel
theorem d_BS_becomeNumber_91 : decode b_BS_becomeNumber 91 = .ok (.ifCond .le 19, 3) := by decide +kernel
theorem d_BS_becomeNumber_94 : decode b_BS_becomeNumber 94 = .ok (.aload_n 0, 1) := by decide +kernel
theorem d_BS_becomeNumber_95 : decode b_BS_becomeNumber 95 = .ok (.getfield 9, 3) := by decide +kernel
theorem d_BS_becomeNumber_98 : decode b_BS_becomeNumber 98 = .ok (.aload_n 0, 1) := by decide +kernel
theorem d_BS_becomeNumber_99 : decode b_BS_becomeNumber 99 = .ok (.getfield 15, 3) := by decide +kernel
theorem d_BS_becomeNumber_102 : decode b_BS_becomeNumber 102 = .ok (.iconst 1, 1) := by decide +kernel
theorem d_BS_becomeNumber_103 : decode b_BS_becomeNumber 103 = .ok (.isub, 1) := by decide +kernel
theorem d_BS_becomeNumber_104 : decode b_BS_becomeNumber 104 = .ok (.iload 5, 2) := by decide +kernel
theorem d_BS_becomeNumber_106 : decode b_BS_becomeNumber 106 = .ok (.iload 6, 2) := by decide +kernel
theorem d_BS_becomeNumber_108 : decode b_BS_becomeNumber 108 = .ok (.ior, 1) := by decide +kernel
theorem d_BS_becomeNumber_109 : decode b_BS_becomeNumber 109 = .ok (.iastore, 1) := by decide +kernel
theorem d_BS_becomeNumber_110 : decode b_BS_becomeNumber 110 = .ok (.return_, 1) := by decide +kernel
theorem wm_BS_45 : Cond.methodLink "SpendScript$ByteString" 45 Lib.MathLoose.abs_long.x ∈ sp_ws := (sp_tb (List.mem_of_getElem? (i := 268) (by decide +kernel)))
theorem wk_BS_49 : Cond.constantLong "SpendScript$ByteString" 49 255 ∈ sp_ws := (sp_tb (List.mem_of_getElem? (i := 271) (by decide +kernel)))
abbrev rm_BS_becomeNumber : Room := { frames := 1, cells := 0, slots := 0, locals := 80 }
def fx_BS_becomeNumber_b67 (q : Nat) (a5 : Int32) (s0 : Int32) (X : xh_T) : Option (Unit × xh_T) :=
  xh_n s0 (fun v11 : Int32 =>
  if a5 < 128 then
  if X.1 q 1 ≤ 0 then
  some ((), X)
  else xh_o (X.1 q 1 - 1) (sp_len (q + 1)) (xh_n (xh_i X (q + 1) ((X.1 q 1 - 1) : Int32).toNatClampNeg (a5 ||| v11)) (fun X3 : xh_T =>
  some ((), X3)))
  else xh_b (fx_BS_append q v11 X) (fun (r13 : Int32) (X4 : xh_T) =>
  some ((), X4)))
set_option maxRecDepth 100000 in
set_option maxHeartbeats 4000000 in
theorem jb_BS_becomeNumber_b67 {p : Program} {l : Launch} {e : Env} {s : State} {m : MethodId} {args : Array Value} {below : List Frame} {meth : Method} {c : Code} {D : va_G} {G : xh_G} {q : Nat} (hz : xh_C p s m args c b_BS_becomeNumber 7 "SpendScript$ByteString" D G (xh_A G s.heap.size)) (hr : meth.sig.returnType = none) (hlk : meth.locks = false) (hq : sp_bs q = true) (a5 : Int32) (s0 : Int32) (X : xh_T) : xh_J p l e rm_BS_becomeNumber s m args below meth c 0 0 D G (xh_A G s.heap.size) 7 (fun r X' => MQ below (xh_Qv D G (xh_A G s.heap.size) r X') args s 0 0 (xh_A G s.heap.size)) 67 [(0, .ref (G.1 q)), (5, .int a5)] [.int s0] X (fx_BS_becomeNumber_b67 q a5 s0 X) := by
  unfold fx_BS_becomeNumber_b67
  refine jr_istore (lf := [(0, .ref (G.1 q)), (5, .int a5)]) hz d_BS_becomeNumber_67 (by decide) rfl (fun v11 => ?_)
  refine jr_iload hz d_BS_becomeNumber_69 2 rfl ?_
  refine jr_sipush (v := 128) hz d_BS_becomeNumber_71 (by decide) ?_
  refine jr_icmp_lt (tgt := 87) hz d_BS_becomeNumber_74 (by decide) ?_ ?_
  · refine jr_aload_n hz d_BS_becomeNumber_87 rfl 1 rfl ?_
    refine jr_geti (j := 1) hz (sp_bs_lt hq) (sp_bs_of hq).2.1 rfl wf_BS_15 d_BS_becomeNumber_88 ?_
    refine jr_if_le (tgt := 110) hz d_BS_becomeNumber_91 (by decide) ?_ ?_
    · exact jr_vret hz hr hlk d_BS_becomeNumber_110
    · refine jr_aload_n hz d_BS_becomeNumber_94 rfl 1 rfl ?_
      refine jr_getr (j := 0) (t := (q + 1)) hz (sp_bs_lt hq) (sp_bs_of hq).2.1 rfl wf_BS_9 d_BS_becomeNumber_95 ?_
      refine jr_aload_n hz d_BS_becomeNumber_98 rfl 1 rfl ?_
      refine jr_geti (j := 1) hz (sp_bs_lt hq) (sp_bs_of hq).2.1 rfl wf_BS_15 d_BS_becomeNumber_99 ?_
      refine jr_iconst (v := 1) hz d_BS_becomeNumber_102 (by decide) ?_
      refine jr_isub hz d_BS_becomeNumber_103 ?_
      refine jr_iload hz d_BS_becomeNumber_104 2 rfl ?_
      refine jr_iload hz d_BS_becomeNumber_106 0 rfl ?_
      refine jr_ior hz d_BS_becomeNumber_108 ?_
      refine jr_iast (n := (sp_len (q + 1))) hz (sp_bs_of hq).1 (sp_bs_of hq).2.2 d_BS_becomeNumber_109 (fun X3 => ?_)
      exact jr_vret hz hr hlk d_BS_becomeNumber_110
  · refine jr_aload_n hz d_BS_becomeNumber_77 rfl 1 rfl ?_
    refine jr_iload hz d_BS_becomeNumber_78 0 rfl ?_
    refine jr_callVi (As := [.int v11]) (a := q) (ci := 0) (st := []) hz (cx_BS_append l D G hz.2.2.2.2.2.2.1 q v11 X) (fun z h => sp_bs_v (xh_k_t h)) wv_BS_35 ⟨rfl, rfl, Nat.le_of_ble_eq_true rfl, Nat.le_of_ble_eq_true rfl⟩ ⟨Nat.zero_le _, Nat.zero_le _⟩ rfl rfl (Nat.le_of_ble_eq_true rfl) d_BS_becomeNumber_80 (fun r13 X4 => ?_)
    refine jr_pop hz d_BS_becomeNumber_83 rfl ?_
    refine jr_goto (tgt := 110) hz d_BS_becomeNumber_84 (by decide) ?_
    exact jr_vret hz hr hlk d_BS_becomeNumber_110
def fx_BS_becomeNumber_b54 (q : Nat) (a1 : Int64) (a5 : Int32) (X : xh_T) : Option (Unit × xh_T) :=
  if 0 ≤ (lg_cmp a1 0) then
  fx_BS_becomeNumber_b67 q a5 0 X
  else fx_BS_becomeNumber_b67 q a5 128 X
set_option maxRecDepth 100000 in
set_option maxHeartbeats 4000000 in
theorem jb_BS_becomeNumber_b54 {p : Program} {l : Launch} {e : Env} {s : State} {m : MethodId} {args : Array Value} {below : List Frame} {meth : Method} {c : Code} {D : va_G} {G : xh_G} {q : Nat} (hz : xh_C p s m args c b_BS_becomeNumber 7 "SpendScript$ByteString" D G (xh_A G s.heap.size)) (hr : meth.sig.returnType = none) (hlk : meth.locks = false) (hq : sp_bs q = true) (a1 : Int64) (a5 : Int32) (X : xh_T) : xh_J p l e rm_BS_becomeNumber s m args below meth c 0 0 D G (xh_A G s.heap.size) 7 (fun r X' => MQ below (xh_Qv D G (xh_A G s.heap.size) r X') args s 0 0 (xh_A G s.heap.size)) 54 [(0, .ref (G.1 q)), (1, .long a1), (5, .int a5)] [] X (fx_BS_becomeNumber_b54 q a1 a5 X) := by
  unfold fx_BS_becomeNumber_b54
  refine jr_lload_n hz d_BS_becomeNumber_54 rfl 1 rfl ?_
  refine jr_lconst (v := 0) hz d_BS_becomeNumber_55 (by decide) ?_
  refine jr_lcmp hz d_BS_becomeNumber_56 ?_
  refine jr_if_ge (tgt := 66) hz d_BS_becomeNumber_57 (by decide) ?_ ?_
  · refine jr_iconst (v := 0) hz d_BS_becomeNumber_66 (by decide) ?_
    refine jr_sub (ls' := [(0, .ref (G.1 q)), (5, .int a5)]) [0, 2] rfl ?_
    exact jb_BS_becomeNumber_b67 hz hr hlk hq a5 0 X
  · refine jr_sipush (v := 128) hz d_BS_becomeNumber_60 (by decide) ?_
    refine jr_goto (tgt := 67) hz d_BS_becomeNumber_63 (by decide) ?_
    refine jr_sub (ls' := [(0, .ref (G.1 q)), (5, .int a5)]) [0, 2] rfl ?_
    exact jb_BS_becomeNumber_b67 hz hr hlk hq a5 128 X
def fx_BS_becomeNumber_b16 (q : Nat) : Nat → Int64 → Int64 → Int32 → Int32 → xh_T → Option (Unit × xh_T)
  | 0, _, _, _, _, _ => none
  | n + 1, a1, a3, a5, a6, X => if 5 ≤ a6 then
  fx_BS_becomeNumber_b54 q a1 a5 X
  else if (lg_cmp a3 0) ≤ 0 then
  fx_BS_becomeNumber_b54 q a1 a5 X
  else xh_n (((a3 &&& 255) : Int64).toInt32) (fun v4 : Int32 =>
  xh_b (fx_BS_append q v4 X) (fun (r6 : Int32) (X2 : xh_T) =>
  xh_n (a3 >>> ((8 : Int32).toInt64 &&& 63)) (fun v9 : Int64 =>
  xh_n (a6 + 1) (fun v10 : Int32 =>
  fx_BS_becomeNumber_b16 q n a1 v9 v4 v10 X2))))
set_option maxRecDepth 100000 in
set_option maxHeartbeats 4000000 in
theorem jb_BS_becomeNumber_b16 {p : Program} {l : Launch} {e : Env} {s : State} {m : MethodId} {args : Array Value} {below : List Frame} {meth : Method} {c : Code} {D : va_G} {G : xh_G} {q : Nat} (hz : xh_C p s m args c b_BS_becomeNumber 7 "SpendScript$ByteString" D G (xh_A G s.heap.size)) (hr : meth.sig.returnType = none) (hlk : meth.locks = false) (hq : sp_bs q = true) : ∀ (n : Nat) (a1 : Int64) (a3 : Int64) (a5 : Int32) (a6 : Int32) (X : xh_T), xh_J p l e rm_BS_becomeNumber s m args below meth c 0 0 D G (xh_A G s.heap.size) 7 (fun r X' => MQ below (xh_Qv D G (xh_A G s.heap.size) r X') args s 0 0 (xh_A G s.heap.size)) 16 [(0, .ref (G.1 q)), (1, .long a1), (3, .long a3), (5, .int a5), (6, .int a6)] [] X (fx_BS_becomeNumber_b16 q n a1 a3 a5 a6 X) := by
  intro n
  induction n with
  | zero => intro a1 a3 a5 a6 X; exact jr_none
  | succ n ih =>
    intro a1 a3 a5 a6 X
    rw [fx_BS_becomeNumber_b16]
    refine jr_iload hz d_BS_becomeNumber_16 4 rfl ?_
    refine jr_iconst (v := 5) hz d_BS_becomeNumber_18 (by decide) ?_
    refine jr_icmp_ge (tgt := 54) hz d_BS_becomeNumber_19 (by decide) ?_ ?_
    · refine jr_sub (ls' := [(0, .ref (G.1 q)), (1, .long a1), (5, .int a5)]) [0, 1, 3] rfl ?_
      exact jb_BS_becomeNumber_b54 hz hr hlk hq a1 a5 X
    · refine jr_lload_n hz d_BS_becomeNumber_22 rfl 2 rfl ?_
      refine jr_lconst (v := 0) hz d_BS_becomeNumber_23 (by decide) ?_
      refine jr_lcmp hz d_BS_becomeNumber_24 ?_
      refine jr_if_le (tgt := 54) hz d_BS_becomeNumber_25 (by decide) ?_ ?_
      · refine jr_sub (ls' := [(0, .ref (G.1 q)), (1, .long a1), (5, .int a5)]) [0, 1, 3] rfl ?_
        exact jb_BS_becomeNumber_b54 hz hr hlk hq a1 a5 X
      · refine jr_lload_n hz d_BS_becomeNumber_28 rfl 2 rfl ?_
        refine jr_ldc2 (v := 255) hz wk_BS_49 d_BS_becomeNumber_29 ?_
        refine jr_land hz d_BS_becomeNumber_32 ?_
        refine jr_l2i hz d_BS_becomeNumber_33 ?_
        refine jr_istore (lf := [(0, .ref (G.1 q)), (1, .long a1), (3, .long a3), (6, .int a6)]) hz d_BS_becomeNumber_34 (by decide) rfl (fun v4 => ?_)
        refine jr_aload_n hz d_BS_becomeNumber_36 rfl 1 rfl ?_
        refine jr_iload hz d_BS_becomeNumber_37 0 rfl ?_
        refine jr_callVi (As := [.int v4]) (a := q) (ci := 0) (st := []) hz (cx_BS_append l D G hz.2.2.2.2.2.2.1 q v4 X) (fun z h => sp_bs_v (xh_k_t h)) wv_BS_35 ⟨rfl, rfl, Nat.le_of_ble_eq_true rfl, Nat.le_of_ble_eq_true rfl⟩ ⟨Nat.zero_le _, Nat.zero_le _⟩ rfl rfl (Nat.le_of_ble_eq_true rfl) d_BS_becomeNumber_39 (fun r6 X2 => ?_)
        refine jr_pop hz d_BS_becomeNumber_42 rfl ?_
        refine jr_lload_n hz d_BS_becomeNumber_43 rfl 3 rfl ?_
        refine jr_bipush (v := 8) hz d_BS_becomeNumber_44 (by decide) ?_
        refine jr_lshr hz d_BS_becomeNumber_46 ?_
        refine jr_lstore_n (lf := [(5, .int v4), (0, .ref (G.1 q)), (1, .long a1), (6, .int a6)]) hz d_BS_becomeNumber_47 rfl (by decide) rfl (fun v9 => ?_)
        refine jr_iinc (lf := [(3, .long v9), (5, .int v4), (0, .ref (G.1 q)), (1, .long a1)]) (w := 1) hz d_BS_becomeNumber_48 4 rfl (by decide) (by decide) rfl (fun v10 => ?_)
        refine jr_goto (tgt := 16) hz d_BS_becomeNumber_51 (by decide) ?_
        refine jr_sub (ls' := [(0, .ref (G.1 q)), (1, .long a1), (3, .long v9), (5, .int v4), (6, .int v10)]) [3, 4, 1, 2, 0] rfl ?_
        exact ih a1 v9 v4 v10 X2
def fx_BS_becomeNumber (q : Nat) (p1 : Int64) (X : xh_T) : Option (Unit × xh_T) :=
  xh_k (sp_bs q) (
  xh_n (xh_i X q 1 0) (fun X1 : xh_T =>
  xh_n (if 0 < p1 then p1 else -p1) (fun v1 : Int64 =>
  xh_n 0 (fun v2 : Int32 =>
  xh_n 0 (fun v3 : Int32 =>
  fx_BS_becomeNumber_b16 q sp_fuel p1 v1 v2 v3 X1)))))
set_option maxRecDepth 100000 in
set_option maxHeartbeats 4000000 in
theorem cx_BS_becomeNumber (l : Launch) (D : va_G) (G : xh_G) (hD : xh_D G) (q : Nat) (p1 : Int64) (X : xh_T) : xh_M xh_Qv l D G y_BS_becomeNumber b_BS_becomeNumber 7 none rm_BS_becomeNumber [.ref (G.1 q), .long p1] X (fx_BS_becomeNumber q p1 X) := by
  refine xh_enter (ls := [(0, .ref (G.1 q)), (1, .long p1)]) hD (by decide +kernel) (Nat.le_of_ble_eq_true rfl) rfl ?_
  intro p e s m args below meth c hz hr hlk
  unfold fx_BS_becomeNumber
  refine jr_k (fun hq => ?_)
  refine jr_aload_n hz d_BS_becomeNumber_0 rfl 0 rfl ?_
  refine jr_iconst (v := 0) hz d_BS_becomeNumber_1 (by decide) ?_
  refine jr_puti hz (sp_bs_lt hq) (sp_bs_of hq).2.1 rfl wp_BS_15 d_BS_becomeNumber_2 (fun X1 => ?_)
  refine jr_lload_n hz d_BS_becomeNumber_5 rfl 1 rfl ?_
  refine jr_mabs_long hz wm_BS_45 wa_mabs_long_static wa_init_Math wa_mabs_long_code (Nat.le_of_ble_eq_true rfl) (Nat.le_of_ble_eq_true rfl) ⟨Nat.zero_le _, Nat.zero_le _⟩ d_BS_becomeNumber_6 ?_
  refine jr_lstore_n (lf := [(0, .ref (G.1 q)), (1, .long p1)]) hz d_BS_becomeNumber_9 rfl (by decide) rfl (fun v1 => ?_)
  refine jr_iconst (v := 0) hz d_BS_becomeNumber_10 (by decide) ?_
  refine jr_istore (lf := [(3, .long v1), (0, .ref (G.1 q)), (1, .long p1)]) hz d_BS_becomeNumber_11 (by decide) rfl (fun v2 => ?_)
  refine jr_iconst (v := 0) hz d_BS_becomeNumber_13 (by decide) ?_
  refine jr_istore (lf := [(5, .int v2), (3, .long v1), (0, .ref (G.1 q)), (1, .long p1)]) hz d_BS_becomeNumber_14 (by decide) rfl (fun v3 => ?_)
  refine jr_sub (ls' := [(0, .ref (G.1 q)), (1, .long p1), (3, .long v1), (5, .int v2), (6, .int v3)]) [3, 4, 2, 1, 0] rfl ?_
  exact jb_BS_becomeNumber_b16 hz hr hlk hq sp_fuel p1 v1 v2 v3 X1
theorem d_BS_isWellFormedSignature_0 : decode b_BS_isWellFormedSignature 0 = .ok (.aload_n 0, 1) := by decide +kernel
theorem d_BS_isWellFormedSignature_1 : decode b_BS_isWellFormedSignature 1 = .ok (.getfield 15, 3) := by decide +kernel
theorem d_BS_isWellFormedSignature_4 : decode b_BS_isWellFormedSignature 4 = .ok (.bipush 6, 2) := by decide +kernel
theorem d_BS_isWellFormedSignature_6 : decode b_BS_isWellFormedSignature 6 = .ok (.if_icmp .lt 12, 3) := by decide +kernel
theorem d_BS_isWellFormedSignature_9 : decode b_BS_isWellFormedSignature 9 = .ok (.aload_n 0, 1) := by decide +kernel
theorem d_BS_isWellFormedSignature_10 : decode b_BS_isWellFormedSignature 10 = .ok (.getfield 15, 3) := by decide +kernel
theorem d_BS_isWellFormedSignature_13 : decode b_BS_isWellFormedSignature 13 = .ok (.bipush 32, 2) := by decide +kernel
theorem d_BS_isWellFormedSignature_15 : decode b_BS_isWellFormedSignature 15 = .ok (.if_icmp .le 5, 3) := by decide +kernel
theorem d_BS_isWellFormedSignature_18 : decode b_BS_isWellFormedSignature 18 = .ok (.iconst 0, 1) := by decide +kernel
theorem d_BS_isWellFormedSignature_19 : decode b_BS_isWellFormedSignature 19 = .ok (.ireturn, 1) := by decide +kernel
theorem d_BS_isWellFormedSignature_20 : decode b_BS_isWellFormedSignature 20 = .ok (.aload_n 0, 1) := by decide +kernel
theorem d_BS_isWellFormedSignature_21 : decode b_BS_isWellFormedSignature 21 = .ok (.getfield 9, 3) := by decide +kernel
theorem d_BS_isWellFormedSignature_24 : decode b_BS_isWellFormedSignature 24 = .ok (.iconst 0, 1) := by decide +kernel
theorem d_BS_isWellFormedSignature_25 : decode b_BS_isWellFormedSignature 25 = .ok (.iaload, 1) := by decide +kernel
theorem d_BS_isWellFormedSignature_26 : decode b_BS_isWellFormedSignature 26 = .ok (.bipush 48, 2) := by decide +kernel
theorem d_BS_isWellFormedSignature_28 : decode b_BS_isWellFormedSignature 28 = .ok (.if_icmp .ne 43, 3) := by decide +kernel
theorem d_BS_isWellFormedSignature_31 : decode b_BS_isWellFormedSignature 31 = .ok (.aload_n 0, 1) := by decide +kernel
theorem d_BS_isWellFormedSignature_32 : decode b_BS_isWellFormedSignature 32 = .ok (.getfield 9, 3) := by decide +kernel
theorem d_BS_isWellFormedSignature_35 : decode b_BS_isWellFormedSignature 35 = .ok (.iconst 1, 1) := by decide +kernel
theorem d_BS_isWellFormedSignature_36 : decode b_BS_isWellFormedSignature 36 = .ok (.iaload, 1) := by decide +kernel
theorem d_BS_isWellFormedSignature_37 : decode b_BS_isWellFormedSignature 37 = .ok (.aload_n 0, 1) := by decide +kernel
theorem d_BS_isWellFormedSignature_38 : decode b_BS_isWellFormedSignature 38 = .ok (.getfield 15, 3) := by decide +kernel
theorem d_BS_isWellFormedSignature_41 : decode b_BS_isWellFormedSignature 41 = .ok (.iconst 3, 1) := by decide +kernel
theorem d_BS_isWellFormedSignature_42 : decode b_BS_isWellFormedSignature 42 = .ok (.isub, 1) := by decide +kernel
theorem d_BS_isWellFormedSignature_43 : decode b_BS_isWellFormedSignature 43 = .ok (.if_icmp .ne 28, 3) := by decide +kernel
theorem d_BS_isWellFormedSignature_46 : decode b_BS_isWellFormedSignature 46 = .ok (.aload_n 0, 1) := by decide +kernel
theorem d_BS_isWellFormedSignature_47 : decode b_BS_isWellFormedSignature 47 = .ok (.getfield 9, 3) := by decide +kernel
theorem d_BS_isWellFormedSignature_50 : decode b_BS_isWellFormedSignature 50 = .ok (.iconst 2, 1) := by decide +kernel
theorem d_BS_isWellFormedSignature_51 : decode b_BS_isWellFormedSignature 51 = .ok (.iaload, 1) := by decide +kernel
theorem d_BS_isWellFormedSignature_52 : decode b_BS_isWellFormedSignature 52 = .ok (.iconst 2, 1) := by decide +kernel
theorem d_BS_isWellFormedSignature_53 : decode b_BS_isWellFormedSignature 53 = .ok (.if_icmp .ne 18, 3) := by decide +kernel
theorem d_BS_isWellFormedSignature_56 : decode b_BS_isWellFormedSignature 56 = .ok (.aload_n 0, 1) := by decide +kernel
theorem d_BS_isWellFormedSignature_57 : decode b_BS_isWellFormedSignature 57 = .ok (.getfield 9, 3) := by decide +kernel
theorem d_BS_isWellFormedSignature_60 : decode b_BS_isWellFormedSignature 60 = .ok (.iconst 3, 1) := by decide +kernel
theorem d_BS_isWellFormedSignature_61 : decode b_BS_isWellFormedSignature 61 = .ok (.iaload, 1) := by decide +kernel
theorem d_BS_isWellFormedSignature_62 : decode b_BS_isWellFormedSignature 62 = .ok (.aload_n 0, 1) := by decide +kernel
theorem d_BS_isWellFormedSignature_63 : decode b_BS_isWellFormedSignature 63 = .ok (.getfield 15, 3) := by decide +kernel
theorem d_BS_isWellFormedSignature_66 : decode b_BS_isWellFormedSignature 66 = .ok (.iconst 5, 1) := by decide +kernel
theorem d_BS_isWellFormedSignature_67 : decode b_BS_isWellFormedSignature 67 = .ok (.isub, 1) := by decide +kernel
theorem d_BS_isWellFormedSignature_68 : decode b_BS_isWellFormedSignature 68 = .ok (.if_icmp .eq 5, 3) := by decide +kernel
theorem d_BS_isWellFormedSignature_71 : decode b_BS_isWellFormedSignature 71 = .ok (.iconst 0, 1) := by decide +kernel
theorem d_BS_isWellFormedSignature_72 : decode b_BS_isWellFormedSignature 72 = .ok (.ireturn, 1) := by decide +kernel
theorem d_BS_isWellFormedSignature_73 : decode b_BS_isWellFormedSignature 73 = .ok (.aload_n 0, 1) := by decide +kernel
theorem d_BS_isWellFormedSignature_74 : decode b_BS_isWellFormedSignature 74 = .ok (.getfield 9, 3) := by decide +kernel
theorem d_BS_isWellFormedSignature_77 : decode b_BS_isWellFormedSignature 77 = .ok (.iconst 4, 1) := by decide +kernel
theorem d_BS_isWellFormedSignature_78 : decode b_BS_isWellFormedSignature 78 = .ok (.iaload, 1) := by decide +kernel
theorem d_BS_isWellFormedSignature_79 : decode b_BS_isWellFormedSignature 79 = .ok (.ifCond .ne 30, 3) := by decide +kernel
theorem d_BS_isWellFormedSignature_82 : decode b_BS_isWellFormedSignature 82 = .ok (.aload_n 0, 1) := by decide +kernel
theorem d_BS_isWellFormedSignature_83 : decode b_BS_isWellFormedSignature 83 = .ok (.getfield 15, 3) := by decide +kernel
theorem d_BS_isWellFormedSignature_86 : decode b_BS_isWellFormedSignature 86 = .ok (.bipush 6, 2) := by decide +kernel
theorem d_BS_isWellFormedSignature_88 : decode b_BS_isWellFormedSignature 88 = .ok (.if_icmp .le 19, 3) := by decide +kernel
theorem d_BS_isWellFormedSignature_91 : decode b_BS_isWellFormedSignature 91 = .ok (.aload_n 0, 1) := by decide +kernel
theorem d_BS_isWellFormedSignature_92 : decode b_BS_isWellFormedSignature 92 = .ok (.getfield 9, 3) := by decide +kernel
theorem d_BS_isWellFormedSignature_95 : decode b_BS_isWellFormedSignature 95 = .ok (.iconst 5, 1) := by decide +kernel
theorem d_BS_isWellFormedSignature_96 : decode b_BS_isWellFormedSignature 96 = .ok (.iaload, 1) := by decide +kernel
theorem d_BS_isWellFormedSignature_97 : decode b_BS_isWellFormedSignature 97 = .ok (.sipush 128, 3) := by decide +kernel
theorem d_BS_isWellFormedSignature_100 : decode b_BS_isWellFormedSignature 100 = .ok (.if_icmp .lt 7, 3) := by decide +kernel
theorem d_BS_isWellFormedSignature_103 : decode b_BS_isWellFormedSignature 103 = .ok (.iconst 1, 1) := by decide +kernel
theorem d_BS_isWellFormedSignature_104 : decode b_BS_isWellFormedSignature 104 = .ok (.goto 4, 3) := by decide +kernel
theorem d_BS_isWellFormedSignature_107 : decode b_BS_isWellFormedSignature 107 = .ok (.iconst 0, 1) := by decide +kernel
theorem d_BS_isWellFormedSignature_108 : decode b_BS_isWellFormedSignature 108 = .ok (.ireturn, 1) := by decide +kernel
theorem d_BS_isWellFormedSignature_109 : decode b_BS_isWellFormedSignature 109 = .ok (.aload_n 0, 1) := by decide +kernel
theorem d_BS_isWellFormedSignature_110 : decode b_BS_isWellFormedSignature 110 = .ok (.getfield 9, 3) := by decide +kernel
theorem d_BS_isWellFormedSignature_113 : decode b_BS_isWellFormedSignature 113 = .ok (.iconst 4, 1) := by decide +kernel
theorem d_BS_isWellFormedSignature_114 : decode b_BS_isWellFormedSignature 114 = .ok (.iaload, 1) := by decide +kernel
theorem d_BS_isWellFormedSignature_115 : decode b_BS_isWellFormedSignature 115 = .ok (.bipush 127, 2) := by decide +kernel
theorem d_BS_isWellFormedSignature_117 : decode b_BS_isWellFormedSignature 117 = .ok (.if_icmp .gt 7, 3) := by decide +kernel
theorem d_BS_isWellFormedSignature_120 : decode b_BS_isWellFormedSignature 120 = .ok (.iconst 1, 1) := by decide +kernel
theorem d_BS_isWellFormedSignature_121 : decode b_BS_isWellFormedSignature 121 = .ok (.goto 4, 3) := by decide +kernel
theorem d_BS_isWellFormedSignature_124 : decode b_BS_isWellFormedSignature 124 = .ok (.iconst 0, 1) := by decide +kernel
theorem d_BS_isWellFormedSignature_125 : decode b_BS_isWellFormedSignature 125 = .ok (.ireturn, 1) := by decide +kernel
abbrev rm_BS_isWellFormedSignature : Room := { frames := 0, cells := 0, slots := 0, locals := 0 }
def fx_BS_isWellFormedSignature (q : Nat) (X : xh_T) : Option (Int32 × xh_T) :=
  xh_k (sp_bs q) (
  if X.1 q 1 < 6 then
  some (0, X)
  else if X.1 q 1 ≤ 32 then
  xh_o 0 (sp_len (q + 1)) (if (X.1 (q + 1) (0 : Int32).toNatClampNeg) = 48 then
  xh_o 1 (sp_len (q + 1)) (if (X.1 (q + 1) (1 : Int32).toNatClampNeg) = (X.1 q 1 - 3) then
  xh_o 2 (sp_len (q + 1)) (if (X.1 (q + 1) (2 : Int32).toNatClampNeg) = 2 then
  xh_o 3 (sp_len (q + 1)) (if (X.1 (q + 1) (3 : Int32).toNatClampNeg) = (X.1 q 1 - 5) then
  xh_o 4 (sp_len (q + 1)) (if (X.1 (q + 1) (4 : Int32).toNatClampNeg) = 0 then
  if X.1 q 1 ≤ 6 then
  some (0, X)
  else xh_o 5 (sp_len (q + 1)) (if (X.1 (q + 1) (5 : Int32).toNatClampNeg) < 128 then
  some (0, X)
  else some (1, X))
  else xh_o 4 (sp_len (q + 1)) (if 127 < (X.1 (q + 1) (4 : Int32).toNatClampNeg) then
  some (0, X)
  else some (1, X)))
  else some (0, X))
  else some (0, X))
  else some (0, X))
  else some (0, X))
  else some (0, X))
set_option maxRecDepth 100000 in
set_option maxHeartbeats 4000000 in
theorem cx_BS_isWellFormedSignature (l : Launch) (D : va_G) (G : xh_G) (hD : xh_D G) (q : Nat) (X : xh_T) : xh_M xh_Qi l D G y_BS_isWellFormedSignature b_BS_isWellFormedSignature 1 (some .boolean) rm_BS_isWellFormedSignature [.ref (G.1 q)] X (fx_BS_isWellFormedSignature q X) := by
  refine xh_enter (ls := [(0, .ref (G.1 q))]) hD (by decide +kernel) (Nat.le_of_ble_eq_true rfl) rfl ?_
  intro p e s m args below meth c hz hr hlk
  unfold fx_BS_isWellFormedSignature
  refine jr_k (fun hq => ?_)
  refine jr_aload_n hz d_BS_isWellFormedSignature_0 rfl 0 rfl ?_
  refine jr_geti (j := 1) hz (sp_bs_lt hq) (sp_bs_of hq).2.1 rfl wf_BS_15 d_BS_isWellFormedSignature_1 ?_
  refine jr_bipush (v := 6) hz d_BS_isWellFormedSignature_4 (by decide) ?_
  refine jr_icmp_lt (tgt := 18) hz d_BS_isWellFormedSignature_6 (by decide) ?_ ?_
  · refine jr_iconst (v := 0) hz d_BS_isWellFormedSignature_18 (by decide) ?_
    exact jr_zret hz hr hlk (by decide) d_BS_isWellFormedSignature_19
  · refine jr_aload_n hz d_BS_isWellFormedSignature_9 rfl 0 rfl ?_
    refine jr_geti (j := 1) hz (sp_bs_lt hq) (sp_bs_of hq).2.1 rfl wf_BS_15 d_BS_isWellFormedSignature_10 ?_
    refine jr_bipush (v := 32) hz d_BS_isWellFormedSignature_13 (by decide) ?_
    refine jr_icmp_le (tgt := 20) hz d_BS_isWellFormedSignature_15 (by decide) ?_ ?_
    · refine jr_aload_n hz d_BS_isWellFormedSignature_20 rfl 0 rfl ?_
      refine jr_getr (j := 0) (t := (q + 1)) hz (sp_bs_lt hq) (sp_bs_of hq).2.1 rfl wf_BS_9 d_BS_isWellFormedSignature_21 ?_
      refine jr_iconst (v := 0) hz d_BS_isWellFormedSignature_24 (by decide) ?_
      refine jr_iald (n := (sp_len (q + 1))) hz (sp_bs_of hq).1 (sp_bs_of hq).2.2 d_BS_isWellFormedSignature_25 ?_
      refine jr_bipush (v := 48) hz d_BS_isWellFormedSignature_26 (by decide) ?_
      refine jr_icmp_ne (tgt := 71) hz d_BS_isWellFormedSignature_28 (by decide) ?_ ?_
      · refine jr_iconst (v := 0) hz d_BS_isWellFormedSignature_71 (by decide) ?_
        exact jr_zret hz hr hlk (by decide) d_BS_isWellFormedSignature_72
      · refine jr_aload_n hz d_BS_isWellFormedSignature_31 rfl 0 rfl ?_
        refine jr_getr (j := 0) (t := (q + 1)) hz (sp_bs_lt hq) (sp_bs_of hq).2.1 rfl wf_BS_9 d_BS_isWellFormedSignature_32 ?_
        refine jr_iconst (v := 1) hz d_BS_isWellFormedSignature_35 (by decide) ?_
        refine jr_iald (n := (sp_len (q + 1))) hz (sp_bs_of hq).1 (sp_bs_of hq).2.2 d_BS_isWellFormedSignature_36 ?_
        refine jr_aload_n hz d_BS_isWellFormedSignature_37 rfl 0 rfl ?_
        refine jr_geti (j := 1) hz (sp_bs_lt hq) (sp_bs_of hq).2.1 rfl wf_BS_15 d_BS_isWellFormedSignature_38 ?_
        refine jr_iconst (v := 3) hz d_BS_isWellFormedSignature_41 (by decide) ?_
        refine jr_isub hz d_BS_isWellFormedSignature_42 ?_
        refine jr_icmp_ne (tgt := 71) hz d_BS_isWellFormedSignature_43 (by decide) ?_ ?_
        · refine jr_iconst (v := 0) hz d_BS_isWellFormedSignature_71 (by decide) ?_
          exact jr_zret hz hr hlk (by decide) d_BS_isWellFormedSignature_72
        · refine jr_aload_n hz d_BS_isWellFormedSignature_46 rfl 0 rfl ?_
          refine jr_getr (j := 0) (t := (q + 1)) hz (sp_bs_lt hq) (sp_bs_of hq).2.1 rfl wf_BS_9 d_BS_isWellFormedSignature_47 ?_
          refine jr_iconst (v := 2) hz d_BS_isWellFormedSignature_50 (by decide) ?_
          refine jr_iald (n := (sp_len (q + 1))) hz (sp_bs_of hq).1 (sp_bs_of hq).2.2 d_BS_isWellFormedSignature_51 ?_
          refine jr_iconst (v := 2) hz d_BS_isWellFormedSignature_52 (by decide) ?_
          refine jr_icmp_ne (tgt := 71) hz d_BS_isWellFormedSignature_53 (by decide) ?_ ?_
          · refine jr_iconst (v := 0) hz d_BS_isWellFormedSignature_71 (by decide) ?_
            exact jr_zret hz hr hlk (by decide) d_BS_isWellFormedSignature_72
          · refine jr_aload_n hz d_BS_isWellFormedSignature_56 rfl 0 rfl ?_
            refine jr_getr (j := 0) (t := (q + 1)) hz (sp_bs_lt hq) (sp_bs_of hq).2.1 rfl wf_BS_9 d_BS_isWellFormedSignature_57 ?_
            refine jr_iconst (v := 3) hz d_BS_isWellFormedSignature_60 (by decide) ?_
            refine jr_iald (n := (sp_len (q + 1))) hz (sp_bs_of hq).1 (sp_bs_of hq).2.2 d_BS_isWellFormedSignature_61 ?_
            refine jr_aload_n hz d_BS_isWellFormedSignature_62 rfl 0 rfl ?_
            refine jr_geti (j := 1) hz (sp_bs_lt hq) (sp_bs_of hq).2.1 rfl wf_BS_15 d_BS_isWellFormedSignature_63 ?_
            refine jr_iconst (v := 5) hz d_BS_isWellFormedSignature_66 (by decide) ?_
            refine jr_isub hz d_BS_isWellFormedSignature_67 ?_
            refine jr_icmp_eq (tgt := 73) hz d_BS_isWellFormedSignature_68 (by decide) ?_ ?_
            · refine jr_aload_n hz d_BS_isWellFormedSignature_73 rfl 0 rfl ?_
              refine jr_getr (j := 0) (t := (q + 1)) hz (sp_bs_lt hq) (sp_bs_of hq).2.1 rfl wf_BS_9 d_BS_isWellFormedSignature_74 ?_
              refine jr_iconst (v := 4) hz d_BS_isWellFormedSignature_77 (by decide) ?_
              refine jr_iald (n := (sp_len (q + 1))) hz (sp_bs_of hq).1 (sp_bs_of hq).2.2 d_BS_isWellFormedSignature_78 ?_
              refine jr_if_ne (tgt := 109) hz d_BS_isWellFormedSignature_79 (by decide) ?_ ?_
              · refine jr_aload_n hz d_BS_isWellFormedSignature_109 rfl 0 rfl ?_
                refine jr_getr (j := 0) (t := (q + 1)) hz (sp_bs_lt hq) (sp_bs_of hq).2.1 rfl wf_BS_9 d_BS_isWellFormedSignature_110 ?_
                refine jr_iconst (v := 4) hz d_BS_isWellFormedSignature_113 (by decide) ?_
                refine jr_iald (n := (sp_len (q + 1))) hz (sp_bs_of hq).1 (sp_bs_of hq).2.2 d_BS_isWellFormedSignature_114 ?_
                refine jr_bipush (v := 127) hz d_BS_isWellFormedSignature_115 (by decide) ?_
                refine jr_icmp_gt (tgt := 124) hz d_BS_isWellFormedSignature_117 (by decide) ?_ ?_
                · refine jr_iconst (v := 0) hz d_BS_isWellFormedSignature_124 (by decide) ?_
                  exact jr_zret hz hr hlk (by decide) d_BS_isWellFormedSignature_125
                · refine jr_iconst (v := 1) hz d_BS_isWellFormedSignature_120 (by decide) ?_
                  refine jr_goto (tgt := 125) hz d_BS_isWellFormedSignature_121 (by decide) ?_
                  exact jr_zret hz hr hlk (by decide) d_BS_isWellFormedSignature_125
              · refine jr_aload_n hz d_BS_isWellFormedSignature_82 rfl 0 rfl ?_
                refine jr_geti (j := 1) hz (sp_bs_lt hq) (sp_bs_of hq).2.1 rfl wf_BS_15 d_BS_isWellFormedSignature_83 ?_
                refine jr_bipush (v := 6) hz d_BS_isWellFormedSignature_86 (by decide) ?_
                refine jr_icmp_le (tgt := 107) hz d_BS_isWellFormedSignature_88 (by decide) ?_ ?_
                · refine jr_iconst (v := 0) hz d_BS_isWellFormedSignature_107 (by decide) ?_
                  exact jr_zret hz hr hlk (by decide) d_BS_isWellFormedSignature_108
                · refine jr_aload_n hz d_BS_isWellFormedSignature_91 rfl 0 rfl ?_
                  refine jr_getr (j := 0) (t := (q + 1)) hz (sp_bs_lt hq) (sp_bs_of hq).2.1 rfl wf_BS_9 d_BS_isWellFormedSignature_92 ?_
                  refine jr_iconst (v := 5) hz d_BS_isWellFormedSignature_95 (by decide) ?_
                  refine jr_iald (n := (sp_len (q + 1))) hz (sp_bs_of hq).1 (sp_bs_of hq).2.2 d_BS_isWellFormedSignature_96 ?_
                  refine jr_sipush (v := 128) hz d_BS_isWellFormedSignature_97 (by decide) ?_
                  refine jr_icmp_lt (tgt := 107) hz d_BS_isWellFormedSignature_100 (by decide) ?_ ?_
                  · refine jr_iconst (v := 0) hz d_BS_isWellFormedSignature_107 (by decide) ?_
                    exact jr_zret hz hr hlk (by decide) d_BS_isWellFormedSignature_108
                  · refine jr_iconst (v := 1) hz d_BS_isWellFormedSignature_103 (by decide) ?_
                    refine jr_goto (tgt := 108) hz d_BS_isWellFormedSignature_104 (by decide) ?_
                    exact jr_zret hz hr hlk (by decide) d_BS_isWellFormedSignature_108
            · refine jr_iconst (v := 0) hz d_BS_isWellFormedSignature_71 (by decide) ?_
              exact jr_zret hz hr hlk (by decide) d_BS_isWellFormedSignature_72
    · refine jr_iconst (v := 0) hz d_BS_isWellFormedSignature_18 (by decide) ?_
      exact jr_zret hz hr hlk (by decide) d_BS_isWellFormedSignature_19
end
