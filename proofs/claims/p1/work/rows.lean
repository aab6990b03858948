section
-- ===== PART A: goes FIRST, ahead of the names: the tables' words, and 'selects' of the private methods out of them =====
/-- a private method of a class that the tables say can be made, by its rows of tables_1 -/
def lw_okq (q : MethodName × Nat) : Prop := (q.1.cls ≠ "java/lang/invoke/MethodHandle" ∧ q.1.cls ≠ "java/lang/invoke/VarHandle") ∧ Cond.instantiable q.1.cls q.2 ∈ tables_1 ∧ Cond.privateMethod q.1 ∈ tables_1 ∧ Cond.instanceMethod q.1 ∈ tables_1
theorem lw_p0 : lw_okq (⟨"java/lang/Throwable", "fillInStackTrace", "(I)Ljava/lang/Throwable;"⟩, 6) := ⟨⟨by decide +kernel, by decide +kernel⟩, List.mem_of_getElem? (i := 296) (by decide +kernel), List.mem_of_getElem? (i := 294) (by decide +kernel), List.mem_of_getElem? (i := 295) (by decide +kernel)⟩
theorem lw_p1 : lw_okq (⟨"PhaserYard$Run", "takeOne", "(I)V"⟩, 15) := ⟨⟨by decide +kernel, by decide +kernel⟩, List.mem_of_getElem? (i := 51) (by decide +kernel), List.mem_of_getElem? (i := 431) (by decide +kernel), List.mem_of_getElem? (i := 432) (by decide +kernel)⟩
theorem lw_p2 : lw_okq (⟨"PhaserYard$Run", "step", "(LPhaserYard$Worker;)V"⟩, 15) := ⟨⟨by decide +kernel, by decide +kernel⟩, List.mem_of_getElem? (i := 51) (by decide +kernel), List.mem_of_getElem? (i := 450) (by decide +kernel), List.mem_of_getElem? (i := 451) (by decide +kernel)⟩
theorem lw_p3 : lw_okq (⟨"PhaserYard$Run", "finishWait", "(LPhaserYard$Task;)I"⟩, 15) := ⟨⟨by decide +kernel, by decide +kernel⟩, List.mem_of_getElem? (i := 51) (by decide +kernel), List.mem_of_getElem? (i := 454) (by decide +kernel), List.mem_of_getElem? (i := 455) (by decide +kernel)⟩
theorem lw_p4 : lw_okq (⟨"PhaserYard$Run", "get", "(LPhaserYard$Task;I)I"⟩, 15) := ⟨⟨by decide +kernel, by decide +kernel⟩, List.mem_of_getElem? (i := 51) (by decide +kernel), List.mem_of_getElem? (i := 458) (by decide +kernel), List.mem_of_getElem? (i := 459) (by decide +kernel)⟩
theorem lw_p5 : lw_okq (⟨"PhaserYard$Run", "passPhases", "(LPhaserYard$Task;)I"⟩, 15) := ⟨⟨by decide +kernel, by decide +kernel⟩, List.mem_of_getElem? (i := 51) (by decide +kernel), List.mem_of_getElem? (i := 466) (by decide +kernel), List.mem_of_getElem? (i := 467) (by decide +kernel)⟩
theorem lw_p6 : lw_okq (⟨"PhaserYard$Run", "isHeldBack", "(LPhaserYard$Task;)Z"⟩, 15) := ⟨⟨by decide +kernel, by decide +kernel⟩, List.mem_of_getElem? (i := 51) (by decide +kernel), List.mem_of_getElem? (i := 470) (by decide +kernel), List.mem_of_getElem? (i := 471) (by decide +kernel)⟩
theorem lw_p7 : lw_okq (⟨"PhaserYard$Run", "endScope", "(LPhaserYard$Task;)I"⟩, 15) := ⟨⟨by decide +kernel, by decide +kernel⟩, List.mem_of_getElem? (i := 51) (by decide +kernel), List.mem_of_getElem? (i := 482) (by decide +kernel), List.mem_of_getElem? (i := 483) (by decide +kernel)⟩
theorem lw_p8 : lw_okq (⟨"PhaserYard$Run", "instruct", "(LPhaserYard$Worker;LPhaserYard$Task;LPhaserYard$Body;)I"⟩, 15) := ⟨⟨by decide +kernel, by decide +kernel⟩, List.mem_of_getElem? (i := 51) (by decide +kernel), List.mem_of_getElem? (i := 494) (by decide +kernel), List.mem_of_getElem? (i := 495) (by decide +kernel)⟩
theorem lw_p9 : lw_okq (⟨"PhaserYard$Run", "spawn", "(LPhaserYard$Worker;LPhaserYard$Task;IZ)I"⟩, 15) := ⟨⟨by decide +kernel, by decide +kernel⟩, List.mem_of_getElem? (i := 51) (by decide +kernel), List.mem_of_getElem? (i := 498) (by decide +kernel), List.mem_of_getElem? (i := 499) (by decide +kernel)⟩
theorem lw_p10 : lw_okq (⟨"PhaserYard$Run", "makeTask", "(LPhaserYard$Task;I)LPhaserYard$Task;"⟩, 15) := ⟨⟨by decide +kernel, by decide +kernel⟩, List.mem_of_getElem? (i := 51) (by decide +kernel), List.mem_of_getElem? (i := 502) (by decide +kernel), List.mem_of_getElem? (i := 503) (by decide +kernel)⟩
theorem lw_p11 : lw_okq (⟨"PhaserYard$Run", "openScope", "(LPhaserYard$Task;II)I"⟩, 15) := ⟨⟨by decide +kernel, by decide +kernel⟩, List.mem_of_getElem? (i := 51) (by decide +kernel), List.mem_of_getElem? (i := 510) (by decide +kernel), List.mem_of_getElem? (i := 511) (by decide +kernel)⟩
theorem lw_p12 : lw_okq (⟨"PhaserYard$Run", "close", "(LPhaserYard$Task;)I"⟩, 15) := ⟨⟨by decide +kernel, by decide +kernel⟩, List.mem_of_getElem? (i := 51) (by decide +kernel), List.mem_of_getElem? (i := 514) (by decide +kernel), List.mem_of_getElem? (i := 515) (by decide +kernel)⟩
theorem lw_p13 : lw_okq (⟨"PhaserYard$Run", "put", "(II)I"⟩, 15) := ⟨⟨by decide +kernel, by decide +kernel⟩, List.mem_of_getElem? (i := 51) (by decide +kernel), List.mem_of_getElem? (i := 528) (by decide +kernel), List.mem_of_getElem? (i := 529) (by decide +kernel)⟩
theorem lw_p14 : lw_okq (⟨"PhaserYard$Run", "spawnWaiting", "(LPhaserYard$Task;II)I"⟩, 15) := ⟨⟨by decide +kernel, by decide +kernel⟩, List.mem_of_getElem? (i := 51) (by decide +kernel), List.mem_of_getElem? (i := 532) (by decide +kernel), List.mem_of_getElem? (i := 533) (by decide +kernel)⟩
theorem lw_p15 : lw_okq (⟨"PhaserYard$Run", "join", "(LPhaserYard$Task;LPhaserYard$Phaser;I)I"⟩, 15) := ⟨⟨by decide +kernel, by decide +kernel⟩, List.mem_of_getElem? (i := 51) (by decide +kernel), List.mem_of_getElem? (i := 536) (by decide +kernel), List.mem_of_getElem? (i := 537) (by decide +kernel)⟩
def lw_privs_1 : List (MethodName × Nat) := [(⟨"java/lang/Throwable", "fillInStackTrace", "(I)Ljava/lang/Throwable;"⟩, 6), (⟨"PhaserYard$Run", "takeOne", "(I)V"⟩, 15), (⟨"PhaserYard$Run", "step", "(LPhaserYard$Worker;)V"⟩, 15), (⟨"PhaserYard$Run", "finishWait", "(LPhaserYard$Task;)I"⟩, 15), (⟨"PhaserYard$Run", "get", "(LPhaserYard$Task;I)I"⟩, 15), (⟨"PhaserYard$Run", "passPhases", "(LPhaserYard$Task;)I"⟩, 15), (⟨"PhaserYard$Run", "isHeldBack", "(LPhaserYard$Task;)Z"⟩, 15), (⟨"PhaserYard$Run", "endScope", "(LPhaserYard$Task;)I"⟩, 15), (⟨"PhaserYard$Run", "instruct", "(LPhaserYard$Worker;LPhaserYard$Task;LPhaserYard$Body;)I"⟩, 15), (⟨"PhaserYard$Run", "spawn", "(LPhaserYard$Worker;LPhaserYard$Task;IZ)I"⟩, 15), (⟨"PhaserYard$Run", "makeTask", "(LPhaserYard$Task;I)LPhaserYard$Task;"⟩, 15), (⟨"PhaserYard$Run", "openScope", "(LPhaserYard$Task;II)I"⟩, 15), (⟨"PhaserYard$Run", "close", "(LPhaserYard$Task;)I"⟩, 15), (⟨"PhaserYard$Run", "put", "(II)I"⟩, 15), (⟨"PhaserYard$Run", "spawnWaiting", "(LPhaserYard$Task;II)I"⟩, 15), (⟨"PhaserYard$Run", "join", "(LPhaserYard$Task;LPhaserYard$Phaser;I)I"⟩, 15)]
theorem lw_r1 : ∀ q ∈ lw_privs_1, lw_okq q := List.forall_mem_cons.mpr ⟨lw_p0, List.forall_mem_cons.mpr ⟨lw_p1, List.forall_mem_cons.mpr ⟨lw_p2, List.forall_mem_cons.mpr ⟨lw_p3, List.forall_mem_cons.mpr ⟨lw_p4, List.forall_mem_cons.mpr ⟨lw_p5, List.forall_mem_cons.mpr ⟨lw_p6, List.forall_mem_cons.mpr ⟨lw_p7, List.forall_mem_cons.mpr ⟨lw_p8, List.forall_mem_cons.mpr ⟨lw_p9, List.forall_mem_cons.mpr ⟨lw_p10, List.forall_mem_cons.mpr ⟨lw_p11, List.forall_mem_cons.mpr ⟨lw_p12, List.forall_mem_cons.mpr ⟨lw_p13, List.forall_mem_cons.mpr ⟨lw_p14, List.forall_mem_cons.mpr ⟨lw_p15, fun _ h => absurd h List.not_mem_nil⟩⟩⟩⟩⟩⟩⟩⟩⟩⟩⟩⟩⟩⟩⟩⟩
theorem lw_p16 : lw_okq (⟨"PhaserYard$Run", "leave", "(LPhaserYard$Task;LPhaserYard$Phaser;)I"⟩, 15) := ⟨⟨by decide +kernel, by decide +kernel⟩, List.mem_of_getElem? (i := 51) (by decide +kernel), List.mem_of_getElem? (i := 544) (by decide +kernel), List.mem_of_getElem? (i := 545) (by decide +kernel)⟩
theorem lw_p17 : lw_okq (⟨"PhaserYard$Phaser", "raisePhase", "()V"⟩, 4) := ⟨⟨by decide +kernel, by decide +kernel⟩, List.mem_of_getElem? (i := 141) (by decide +kernel), List.mem_of_getElem? (i := 552) (by decide +kernel), List.mem_of_getElem? (i := 553) (by decide +kernel)⟩
theorem lw_p18 : lw_okq (⟨"PhaserYard$Run", "signalAll", "(LPhaserYard$Task;)V"⟩, 15) := ⟨⟨by decide +kernel, by decide +kernel⟩, List.mem_of_getElem? (i := 51) (by decide +kernel), List.mem_of_getElem? (i := 556) (by decide +kernel), List.mem_of_getElem? (i := 557) (by decide +kernel)⟩
theorem lw_p19 : lw_okq (⟨"PhaserYard$Run", "say", "(I)V"⟩, 15) := ⟨⟨by decide +kernel, by decide +kernel⟩, List.mem_of_getElem? (i := 51) (by decide +kernel), List.mem_of_getElem? (i := 564) (by decide +kernel), List.mem_of_getElem? (i := 565) (by decide +kernel)⟩
theorem lw_p20 : lw_okq (⟨"PhaserYard$Run", "endInnermost", "(LPhaserYard$Task;)V"⟩, 15) := ⟨⟨by decide +kernel, by decide +kernel⟩, List.mem_of_getElem? (i := 51) (by decide +kernel), List.mem_of_getElem? (i := 568) (by decide +kernel), List.mem_of_getElem? (i := 569) (by decide +kernel)⟩
theorem lw_p21 : lw_okq (⟨"PhaserYard$Run", "finish", "(LPhaserYard$Task;)V"⟩, 15) := ⟨⟨by decide +kernel, by decide +kernel⟩, List.mem_of_getElem? (i := 51) (by decide +kernel), List.mem_of_getElem? (i := 572) (by decide +kernel), List.mem_of_getElem? (i := 573) (by decide +kernel)⟩
theorem lw_p22 : lw_okq (⟨"PhaserYard$Run", "wakeAll", "(LPhaserYard$Worker;)V"⟩, 15) := ⟨⟨by decide +kernel, by decide +kernel⟩, List.mem_of_getElem? (i := 51) (by decide +kernel), List.mem_of_getElem? (i := 580) (by decide +kernel), List.mem_of_getElem? (i := 581) (by decide +kernel)⟩
theorem lw_p23 : lw_okq (⟨"PhaserYard$Run", "isWaitOver", "(LPhaserYard$Task;)Z"⟩, 15) := ⟨⟨by decide +kernel, by decide +kernel⟩, List.mem_of_getElem? (i := 51) (by decide +kernel), List.mem_of_getElem? (i := 584) (by decide +kernel), List.mem_of_getElem? (i := 585) (by decide +kernel)⟩
theorem lw_p24 : lw_okq (⟨"PhaserYard$Run", "unfinishedTasks", "()I"⟩, 15) := ⟨⟨by decide +kernel, by decide +kernel⟩, List.mem_of_getElem? (i := 51) (by decide +kernel), List.mem_of_getElem? (i := 687) (by decide +kernel), List.mem_of_getElem? (i := 688) (by decide +kernel)⟩
theorem lw_p25 : lw_okq (⟨"PhaserYardModel", "fail", "(I)I"⟩, 40) := ⟨⟨by decide +kernel, by decide +kernel⟩, List.mem_of_getElem? (i := 693) (by decide +kernel), List.mem_of_getElem? (i := 831) (by decide +kernel), List.mem_of_getElem? (i := 832) (by decide +kernel)⟩
theorem lw_p26 : lw_okq (⟨"PhaserYardModel", "openScope", "(III)V"⟩, 40) := ⟨⟨by decide +kernel, by decide +kernel⟩, List.mem_of_getElem? (i := 693) (by decide +kernel), List.mem_of_getElem? (i := 846) (by decide +kernel), List.mem_of_getElem? (i := 847) (by decide +kernel)⟩
theorem lw_p27 : lw_okq (⟨"PhaserYardModel", "newTask", "(III)I"⟩, 40) := ⟨⟨by decide +kernel, by decide +kernel⟩, List.mem_of_getElem? (i := 693) (by decide +kernel), List.mem_of_getElem? (i := 852) (by decide +kernel), List.mem_of_getElem? (i := 853) (by decide +kernel)⟩
theorem lw_p28 : lw_okq (⟨"PhaserYardModel", "push", "(II)V"⟩, 40) := ⟨⟨by decide +kernel, by decide +kernel⟩, List.mem_of_getElem? (i := 693) (by decide +kernel), List.mem_of_getElem? (i := 856) (by decide +kernel), List.mem_of_getElem? (i := 857) (by decide +kernel)⟩
theorem lw_p29 : lw_okq (⟨"PhaserYardModel", "isOver", "()Z"⟩, 40) := ⟨⟨by decide +kernel, by decide +kernel⟩, List.mem_of_getElem? (i := 693) (by decide +kernel), List.mem_of_getElem? (i := 864) (by decide +kernel), List.mem_of_getElem? (i := 865) (by decide +kernel)⟩
theorem lw_p30 : lw_okq (⟨"PhaserYardModel", "isStuck", "()Z"⟩, 40) := ⟨⟨by decide +kernel, by decide +kernel⟩, List.mem_of_getElem? (i := 693) (by decide +kernel), List.mem_of_getElem? (i := 868) (by decide +kernel), List.mem_of_getElem? (i := 869) (by decide +kernel)⟩
theorem lw_p31 : lw_okq (⟨"PhaserYardModel", "work", "(I)V"⟩, 40) := ⟨⟨by decide +kernel, by decide +kernel⟩, List.mem_of_getElem? (i := 693) (by decide +kernel), List.mem_of_getElem? (i := 872) (by decide +kernel), List.mem_of_getElem? (i := 873) (by decide +kernel)⟩
def lw_privs_2 : List (MethodName × Nat) := [(⟨"PhaserYard$Run", "leave", "(LPhaserYard$Task;LPhaserYard$Phaser;)I"⟩, 15), (⟨"PhaserYard$Phaser", "raisePhase", "()V"⟩, 4), (⟨"PhaserYard$Run", "signalAll", "(LPhaserYard$Task;)V"⟩, 15), (⟨"PhaserYard$Run", "say", "(I)V"⟩, 15), (⟨"PhaserYard$Run", "endInnermost", "(LPhaserYard$Task;)V"⟩, 15), (⟨"PhaserYard$Run", "finish", "(LPhaserYard$Task;)V"⟩, 15), (⟨"PhaserYard$Run", "wakeAll", "(LPhaserYard$Worker;)V"⟩, 15), (⟨"PhaserYard$Run", "isWaitOver", "(LPhaserYard$Task;)Z"⟩, 15), (⟨"PhaserYard$Run", "unfinishedTasks", "()I"⟩, 15), (⟨"PhaserYardModel", "fail", "(I)I"⟩, 40), (⟨"PhaserYardModel", "openScope", "(III)V"⟩, 40), (⟨"PhaserYardModel", "newTask", "(III)I"⟩, 40), (⟨"PhaserYardModel", "push", "(II)V"⟩, 40), (⟨"PhaserYardModel", "isOver", "()Z"⟩, 40), (⟨"PhaserYardModel", "isStuck", "()Z"⟩, 40), (⟨"PhaserYardModel", "work", "(I)V"⟩, 40)]
theorem lw_r2 : ∀ q ∈ lw_privs_2, lw_okq q := List.forall_mem_cons.mpr ⟨lw_p16, List.forall_mem_cons.mpr ⟨lw_p17, List.forall_mem_cons.mpr ⟨lw_p18, List.forall_mem_cons.mpr ⟨lw_p19, List.forall_mem_cons.mpr ⟨lw_p20, List.forall_mem_cons.mpr ⟨lw_p21, List.forall_mem_cons.mpr ⟨lw_p22, List.forall_mem_cons.mpr ⟨lw_p23, List.forall_mem_cons.mpr ⟨lw_p24, List.forall_mem_cons.mpr ⟨lw_p25, List.forall_mem_cons.mpr ⟨lw_p26, List.forall_mem_cons.mpr ⟨lw_p27, List.forall_mem_cons.mpr ⟨lw_p28, List.forall_mem_cons.mpr ⟨lw_p29, List.forall_mem_cons.mpr ⟨lw_p30, List.forall_mem_cons.mpr ⟨lw_p31, fun _ h => absurd h List.not_mem_nil⟩⟩⟩⟩⟩⟩⟩⟩⟩⟩⟩⟩⟩⟩⟩⟩
theorem lw_p32 : lw_okq (⟨"PhaserYardModel", "take", "(I)I"⟩, 40) := ⟨⟨by decide +kernel, by decide +kernel⟩, List.mem_of_getElem? (i := 693) (by decide +kernel), List.mem_of_getElem? (i := 876) (by decide +kernel), List.mem_of_getElem? (i := 877) (by decide +kernel)⟩
theorem lw_p33 : lw_okq (⟨"PhaserYardModel", "step", "(I)V"⟩, 40) := ⟨⟨by decide +kernel, by decide +kernel⟩, List.mem_of_getElem? (i := 693) (by decide +kernel), List.mem_of_getElem? (i := 880) (by decide +kernel), List.mem_of_getElem? (i := 881) (by decide +kernel)⟩
theorem lw_p34 : lw_okq (⟨"PhaserYardModel", "end", "(I)V"⟩, 40) := ⟨⟨by decide +kernel, by decide +kernel⟩, List.mem_of_getElem? (i := 693) (by decide +kernel), List.mem_of_getElem? (i := 884) (by decide +kernel), List.mem_of_getElem? (i := 885) (by decide +kernel)⟩
theorem lw_p35 : lw_okq (⟨"PhaserYardModel", "inner", "(I)I"⟩, 40) := ⟨⟨by decide +kernel, by decide +kernel⟩, List.mem_of_getElem? (i := 693) (by decide +kernel), List.mem_of_getElem? (i := 888) (by decide +kernel), List.mem_of_getElem? (i := 889) (by decide +kernel)⟩
theorem lw_p36 : lw_okq (⟨"PhaserYardModel", "set", "(II)V"⟩, 40) := ⟨⟨by decide +kernel, by decide +kernel⟩, List.mem_of_getElem? (i := 693) (by decide +kernel), List.mem_of_getElem? (i := 892) (by decide +kernel), List.mem_of_getElem? (i := 893) (by decide +kernel)⟩
theorem lw_p37 : lw_okq (⟨"PhaserYardModel", "raise", "(II)V"⟩, 40) := ⟨⟨by decide +kernel, by decide +kernel⟩, List.mem_of_getElem? (i := 693) (by decide +kernel), List.mem_of_getElem? (i := 896) (by decide +kernel), List.mem_of_getElem? (i := 897) (by decide +kernel)⟩
theorem lw_p38 : lw_okq (⟨"PhaserYardModel", "note", "(II)V"⟩, 40) := ⟨⟨by decide +kernel, by decide +kernel⟩, List.mem_of_getElem? (i := 693) (by decide +kernel), List.mem_of_getElem? (i := 900) (by decide +kernel), List.mem_of_getElem? (i := 901) (by decide +kernel)⟩
theorem lw_p39 : lw_okq (⟨"PhaserYardModel", "finish", "(I)V"⟩, 40) := ⟨⟨by decide +kernel, by decide +kernel⟩, List.mem_of_getElem? (i := 693) (by decide +kernel), List.mem_of_getElem? (i := 904) (by decide +kernel), List.mem_of_getElem? (i := 905) (by decide +kernel)⟩
theorem lw_p40 : lw_okq (⟨"PhaserYardModel", "move", "()V"⟩, 40) := ⟨⟨by decide +kernel, by decide +kernel⟩, List.mem_of_getElem? (i := 693) (by decide +kernel), List.mem_of_getElem? (i := 908) (by decide +kernel), List.mem_of_getElem? (i := 909) (by decide +kernel)⟩
theorem lw_p41 : lw_okq (⟨"PhaserYardModel", "spawn", "(III)V"⟩, 40) := ⟨⟨by decide +kernel, by decide +kernel⟩, List.mem_of_getElem? (i := 693) (by decide +kernel), List.mem_of_getElem? (i := 912) (by decide +kernel), List.mem_of_getElem? (i := 913) (by decide +kernel)⟩
theorem lw_p42 : lw_okq (⟨"PhaserYardModel", "onScope", "(III)V"⟩, 40) := ⟨⟨by decide +kernel, by decide +kernel⟩, List.mem_of_getElem? (i := 693) (by decide +kernel), List.mem_of_getElem? (i := 916) (by decide +kernel), List.mem_of_getElem? (i := 917) (by decide +kernel)⟩
theorem lw_p43 : lw_okq (⟨"PhaserYardModel", "onFuture", "(III)V"⟩, 40) := ⟨⟨by decide +kernel, by decide +kernel⟩, List.mem_of_getElem? (i := 693) (by decide +kernel), List.mem_of_getElem? (i := 920) (by decide +kernel), List.mem_of_getElem? (i := 921) (by decide +kernel)⟩
theorem lw_p44 : lw_okq (⟨"PhaserYardModel", "join", "(III)V"⟩, 40) := ⟨⟨by decide +kernel, by decide +kernel⟩, List.mem_of_getElem? (i := 693) (by decide +kernel), List.mem_of_getElem? (i := 924) (by decide +kernel), List.mem_of_getElem? (i := 925) (by decide +kernel)⟩
theorem lw_p45 : lw_okq (⟨"PhaserYardModel", "next", "(I)V"⟩, 40) := ⟨⟨by decide +kernel, by decide +kernel⟩, List.mem_of_getElem? (i := 693) (by decide +kernel), List.mem_of_getElem? (i := 928) (by decide +kernel), List.mem_of_getElem? (i := 929) (by decide +kernel)⟩
theorem lw_p46 : lw_okq (⟨"PhaserYardModel", "isPassed", "(I)Z"⟩, 40) := ⟨⟨by decide +kernel, by decide +kernel⟩, List.mem_of_getElem? (i := 693) (by decide +kernel), List.mem_of_getElem? (i := 932) (by decide +kernel), List.mem_of_getElem? (i := 933) (by decide +kernel)⟩
theorem lw_p47 : lw_okq (⟨"PhaserYardModel", "give", "(I)V"⟩, 40) := ⟨⟨by decide +kernel, by decide +kernel⟩, List.mem_of_getElem? (i := 693) (by decide +kernel), List.mem_of_getElem? (i := 936) (by decide +kernel), List.mem_of_getElem? (i := 937) (by decide +kernel)⟩
def lw_privs_3 : List (MethodName × Nat) := [(⟨"PhaserYardModel", "take", "(I)I"⟩, 40), (⟨"PhaserYardModel", "step", "(I)V"⟩, 40), (⟨"PhaserYardModel", "end", "(I)V"⟩, 40), (⟨"PhaserYardModel", "inner", "(I)I"⟩, 40), (⟨"PhaserYardModel", "set", "(II)V"⟩, 40), (⟨"PhaserYardModel", "raise", "(II)V"⟩, 40), (⟨"PhaserYardModel", "note", "(II)V"⟩, 40), (⟨"PhaserYardModel", "finish", "(I)V"⟩, 40), (⟨"PhaserYardModel", "move", "()V"⟩, 40), (⟨"PhaserYardModel", "spawn", "(III)V"⟩, 40), (⟨"PhaserYardModel", "onScope", "(III)V"⟩, 40), (⟨"PhaserYardModel", "onFuture", "(III)V"⟩, 40), (⟨"PhaserYardModel", "join", "(III)V"⟩, 40), (⟨"PhaserYardModel", "next", "(I)V"⟩, 40), (⟨"PhaserYardModel", "isPassed", "(I)Z"⟩, 40), (⟨"PhaserYardModel", "give", "(I)V"⟩, 40)]
theorem lw_r3 : ∀ q ∈ lw_privs_3, lw_okq q := List.forall_mem_cons.mpr ⟨lw_p32, List.forall_mem_cons.mpr ⟨lw_p33, List.forall_mem_cons.mpr ⟨lw_p34, List.forall_mem_cons.mpr ⟨lw_p35, List.forall_mem_cons.mpr ⟨lw_p36, List.forall_mem_cons.mpr ⟨lw_p37, List.forall_mem_cons.mpr ⟨lw_p38, List.forall_mem_cons.mpr ⟨lw_p39, List.forall_mem_cons.mpr ⟨lw_p40, List.forall_mem_cons.mpr ⟨lw_p41, List.forall_mem_cons.mpr ⟨lw_p42, List.forall_mem_cons.mpr ⟨lw_p43, List.forall_mem_cons.mpr ⟨lw_p44, List.forall_mem_cons.mpr ⟨lw_p45, List.forall_mem_cons.mpr ⟨lw_p46, List.forall_mem_cons.mpr ⟨lw_p47, fun _ h => absurd h List.not_mem_nil⟩⟩⟩⟩⟩⟩⟩⟩⟩⟩⟩⟩⟩⟩⟩⟩
theorem lw_p48 : lw_okq (⟨"PhaserYardModel", "ready", "(II)V"⟩, 40) := ⟨⟨by decide +kernel, by decide +kernel⟩, List.mem_of_getElem? (i := 693) (by decide +kernel), List.mem_of_getElem? (i := 940) (by decide +kernel), List.mem_of_getElem? (i := 941) (by decide +kernel)⟩
theorem lw_p49 : lw_okq (⟨"PhaserYardModel", "isReady", "(I)Z"⟩, 40) := ⟨⟨by decide +kernel, by decide +kernel⟩, List.mem_of_getElem? (i := 693) (by decide +kernel), List.mem_of_getElem? (i := 944) (by decide +kernel), List.mem_of_getElem? (i := 945) (by decide +kernel)⟩
theorem lw_p50 : lw_okq (⟨"PhaserYardModel", "queuedAt", "(II)I"⟩, 40) := ⟨⟨by decide +kernel, by decide +kernel⟩, List.mem_of_getElem? (i := 693) (by decide +kernel), List.mem_of_getElem? (i := 968) (by decide +kernel), List.mem_of_getElem? (i := 969) (by decide +kernel)⟩
def lw_privs_4 : List (MethodName × Nat) := [(⟨"PhaserYardModel", "ready", "(II)V"⟩, 40), (⟨"PhaserYardModel", "isReady", "(I)Z"⟩, 40), (⟨"PhaserYardModel", "queuedAt", "(II)I"⟩, 40)]
theorem lw_r4 : ∀ q ∈ lw_privs_4, lw_okq q := List.forall_mem_cons.mpr ⟨lw_p48, List.forall_mem_cons.mpr ⟨lw_p49, List.forall_mem_cons.mpr ⟨lw_p50, fun _ h => absurd h List.not_mem_nil⟩⟩⟩
def lw_privs : List (MethodName × Nat) := lw_privs_1 ++ (lw_privs_2 ++ (lw_privs_3 ++ (lw_privs_4)))
def lw_tbl : List Cond := k2_sels lw_privs ++ tables_1
theorem lw_privs_ok : ∀ q ∈ lw_privs, lw_okq q := by
  show ∀ q ∈ lw_privs_1 ++ (lw_privs_2 ++ (lw_privs_3 ++ (lw_privs_4))), lw_okq q
  exact List.forall_mem_append.mpr ⟨lw_r1, List.forall_mem_append.mpr ⟨lw_r2, List.forall_mem_append.mpr ⟨lw_r3, lw_r4⟩⟩⟩
end
section
/-! NAMES, by wip/whole/draft/names.py out of claim/Statement.lean and claim/JAVAP.txt: classes, fields, the good words of the tables, methods. -/
def am_words : List Cond := lw_tbl.filter goodWord
theorem am_good : ∀ w ∈ am_words, (w.onTables && w.keeps) = true ∨ ∃ ty, w = .arrayClass ty := fun w h => good_of_word (List.mem_filter.mp h).2
theorem am_tbl {w : Cond} (h : w ∈ am_words) : w ∈ lw_tbl := (List.mem_filter.mp h).1
theorem am_in {w : Cond} (i : Nat) (h : tables_1[i]? = some w) (hg : goodWord w = true) : w ∈ am_words := List.mem_filter.mpr ⟨List.mem_append_right _ (List.mem_of_getElem? h), hg⟩
theorem am_inS {w : Cond} (i : Nat) (h : (k2_sels lw_privs)[i]? = some w) (hg : goodWord w = true) : w ∈ am_words := List.mem_filter.mpr ⟨List.mem_append_left _ (List.mem_of_getElem? h), hg⟩
def RX0 : String := "PhaserYard$Body"
def TX0 : u_T := fun k => match k with
  | 0 => ("PhaserYard$Body", "ops", "[I", true)
  | 1 => ("PhaserYard$Body", "operands", "[I", true)
  | _ => ("PhaserYard$Body", "size", "I", false)
def tyX0 : Nat → FieldType := fun k => match k with
  | 0 => .array (.int)
  | 1 => .array (.int)
  | _ => .int
def RX1 : String := "PhaserYard$Phaser"
def TX1 : u_T := fun k => match k with
  | 0 => ("PhaserYard$Phaser", "phase", "I", false)
  | 1 => ("PhaserYard$Phaser", "modes", "[I", true)
  | 2 => ("PhaserYard$Phaser", "sent", "[I", true)
  | _ => ("PhaserYard$Phaser", "seen", "[I", true)
def tyX1 : Nat → FieldType := fun k => match k with
  | 0 => .int
  | 1 => .array (.int)
  | 2 => .array (.int)
  | _ => .array (.int)
def RX2 : String := "PhaserYard$Run"
def TX2 : u_T := fun k => match k with
  | 0 => ("PhaserYard$Run", "bodies", "[LPhaserYard$Body;", true)
  | 1 => ("PhaserYard$Run", "tasks", "[LPhaserYard$Task;", true)
  | 2 => ("PhaserYard$Run", "taskCount", "I", false)
  | 3 => ("PhaserYard$Run", "root", "LPhaserYard$Scope;", true)
  | 4 => ("PhaserYard$Run", "phasers", "[LPhaserYard$Phaser;", true)
  | 5 => ("PhaserYard$Run", "workers", "[LPhaserYard$Worker;", true)
  | 6 => ("PhaserYard$Run", "workerCount", "I", false)
  | 7 => ("PhaserYard$Run", "isNewFirst", "Z", false)
  | 8 => ("PhaserYard$Run", "values", "[I", true)
  | 9 => ("PhaserYard$Run", "isPut", "[Z", true)
  | 10 => ("PhaserYard$Run", "spoken", "[I", true)
  | 11 => ("PhaserYard$Run", "spokenCount", "I", false)
  | 12 => ("PhaserYard$Run", "ticks", "I", false)
  | 13 => ("PhaserYard$Run", "steps", "I", false)
  | _ => ("PhaserYard$Run", "stolen", "I", false)
def tyX2 : Nat → FieldType := fun k => match k with
  | 0 => .array (.object "PhaserYard$Body")
  | 1 => .array (.object "PhaserYard$Task")
  | 2 => .int
  | 3 => .object "PhaserYard$Scope"
  | 4 => .array (.object "PhaserYard$Phaser")
  | 5 => .array (.object "PhaserYard$Worker")
  | 6 => .int
  | 7 => .boolean
  | 8 => .array (.int)
  | 9 => .array (.boolean)
  | 10 => .array (.int)
  | 11 => .int
  | 12 => .int
  | 13 => .int
  | _ => .int
def RX3 : String := "PhaserYard$Scope"
def TX3 : u_T := fun k => match k with
  | 0 => ("PhaserYard$Scope", "kind", "I", false)
  | 1 => ("PhaserYard$Scope", "handler", "I", false)
  | 2 => ("PhaserYard$Scope", "unfinished", "I", false)
  | 3 => ("PhaserYard$Scope", "total", "I", false)
  | 4 => ("PhaserYard$Scope", "noted", "I", false)
  | _ => ("PhaserYard$Scope", "leastNoted", "I", false)
def tyX3 : Nat → FieldType := fun k => match k with
  | 0 => .int
  | 1 => .int
  | 2 => .int
  | 3 => .int
  | 4 => .int
  | _ => .int
def RX4 : String := "PhaserYard$Task"
def TX4 : u_T := fun k => match k with
  | 0 => ("PhaserYard$Task", "number", "I", true)
  | 1 => ("PhaserYard$Task", "own", "[LPhaserYard$Scope;", true)
  | 2 => ("PhaserYard$Task", "ownOpen", "I", false)
  | 3 => ("PhaserYard$Task", "home", "LPhaserYard$Scope;", false)
  | 4 => ("PhaserYard$Task", "bodyNumber", "I", false)
  | 5 => ("PhaserYard$Task", "sum", "I", false)
  | 6 => ("PhaserYard$Task", "place", "I", false)
  | 7 => ("PhaserYard$Task", "state", "I", false)
  | 8 => ("PhaserYard$Task", "due", "I", false)
  | _ => ("PhaserYard$Task", "awaited", "I", false)
def tyX4 : Nat → FieldType := fun k => match k with
  | 0 => .int
  | 1 => .array (.object "PhaserYard$Scope")
  | 2 => .int
  | 3 => .object "PhaserYard$Scope"
  | 4 => .int
  | 5 => .int
  | 6 => .int
  | 7 => .int
  | 8 => .int
  | _ => .int
def RX5 : String := "PhaserYard$Worker"
def TX5 : u_T := fun k => match k with
  | 0 => ("PhaserYard$Worker", "deque", "[I", true)
  | 1 => ("PhaserYard$Worker", "size", "I", false)
  | _ => ("PhaserYard$Worker", "hand", "I", false)
def tyX5 : Nat → FieldType := fun k => match k with
  | 0 => .array (.int)
  | 1 => .int
  | _ => .int
def RX6 : String := "PhaserYard"
def TX6 : u_T := fun k => match k with
  | 0 => ("PhaserYard", "bodies", "[LPhaserYard$Body;", true)
  | _ => ("PhaserYard", "current", "LPhaserYard$Run;", true)
def tyX6 : Nat → FieldType := fun k => match k with
  | 0 => .array (.object "PhaserYard$Body")
  | _ => .object "PhaserYard$Run"
def RX7 : String := "PhaserYardModel"
def TX7 : u_T := fun k => match k with
  | 0 => ("PhaserYardModel", "many", "[I", true)
  | 1 => ("PhaserYardModel", "op", "[I", true)
  | 2 => ("PhaserYardModel", "arg", "[I", true)
  | 3 => ("PhaserYardModel", "state", "[I", true)
  | 4 => ("PhaserYardModel", "sum", "[I", true)
  | 5 => ("PhaserYardModel", "place", "[I", true)
  | 6 => ("PhaserYardModel", "bodyOf", "[I", true)
  | 7 => ("PhaserYardModel", "home", "[I", true)
  | 8 => ("PhaserYardModel", "own", "[I", true)
  | 9 => ("PhaserYardModel", "waits", "[I", true)
  | 10 => ("PhaserYardModel", "awaited", "[I", true)
  | 11 => ("PhaserYardModel", "future", "[I", true)
  | 12 => ("PhaserYardModel", "ends", "[Z", true)
  | 13 => ("PhaserYardModel", "closes", "[Z", true)
  | 14 => ("PhaserYardModel", "sent", "[Z", true)
  | 15 => ("PhaserYardModel", "isPut", "[Z", true)
  | 16 => ("PhaserYardModel", "mode", "[I", true)
  | 17 => ("PhaserYardModel", "sends", "[I", true)
  | 18 => ("PhaserYardModel", "seen", "[I", true)
  | 19 => ("PhaserYardModel", "phase", "[I", true)
  | 20 => ("PhaserYardModel", "count", "[I", true)
  | 21 => ("PhaserYardModel", "total", "[I", true)
  | 22 => ("PhaserYardModel", "kind", "[I", true)
  | 23 => ("PhaserYardModel", "handler", "[I", true)
  | 24 => ("PhaserYardModel", "noted", "[I", true)
  | 25 => ("PhaserYardModel", "least", "[I", true)
  | 26 => ("PhaserYardModel", "hand", "[I", true)
  | 27 => ("PhaserYardModel", "queued", "[I", true)
  | 28 => ("PhaserYardModel", "queue", "[I", true)
  | 29 => ("PhaserYardModel", "said", "[I", true)
  | 30 => ("PhaserYardModel", "tasks", "I", false)
  | 31 => ("PhaserYardModel", "workers", "I", false)
  | 32 => ("PhaserYardModel", "policy", "I", false)
  | 33 => ("PhaserYardModel", "ticks", "I", false)
  | 34 => ("PhaserYardModel", "steps", "I", false)
  | 35 => ("PhaserYardModel", "stolen", "I", false)
  | 36 => ("PhaserYardModel", "saidMany", "I", false)
  | 37 => ("PhaserYardModel", "thrown", "I", false)
  | 38 => ("PhaserYardModel", "fresh", "I", false)
  | _ => ("PhaserYardModel", "begun", "Z", false)
def tyX7 : Nat → FieldType := fun k => match k with
  | 0 => .array (.int)
  | 1 => .array (.int)
  | 2 => .array (.int)
  | 3 => .array (.int)
  | 4 => .array (.int)
  | 5 => .array (.int)
  | 6 => .array (.int)
  | 7 => .array (.int)
  | 8 => .array (.int)
  | 9 => .array (.int)
  | 10 => .array (.int)
  | 11 => .array (.int)
  | 12 => .array (.boolean)
  | 13 => .array (.boolean)
  | 14 => .array (.boolean)
  | 15 => .array (.boolean)
  | 16 => .array (.int)
  | 17 => .array (.int)
  | 18 => .array (.int)
  | 19 => .array (.int)
  | 20 => .array (.int)
  | 21 => .array (.int)
  | 22 => .array (.int)
  | 23 => .array (.int)
  | 24 => .array (.int)
  | 25 => .array (.int)
  | 26 => .array (.int)
  | 27 => .array (.int)
  | 28 => .array (.int)
  | 29 => .array (.int)
  | 30 => .int
  | 31 => .int
  | 32 => .int
  | 33 => .int
  | 34 => .int
  | 35 => .int
  | 36 => .int
  | 37 => .int
  | 38 => .int
  | _ => .boolean
abbrev vwCl : List vw_C := [(RX0, TX0, 3), (RX1, TX1, 4), (RX2, TX2, 15), (RX3, TX3, 6), (RX4, TX4, 10), (RX5, TX5, 3), (RX6, TX6, 2), (RX7, TX7, 40)]
def am_Nf (ci : Nat) : Nat := [3, 4, 15, 6, 10, 3, 2, 40].getD ci 0
def am_rt : List (List Bool) := [[true, true, false], [false, true, true, true], [true, true, false, true, true, true, false, false, true, true, true, false, false, false, false], [false, false, false, false, false, false], [false, true, false, true, false, false, false, false, false, false], [true, false, false], [true, true], [true, true, true, true, true, true, true, true, true, true, true, true, true, true, true, true, true, true, true, true, true, true, true, true, true, true, true, true, true, true, false, false, false, false, false, false, false, false, false, false]]
def am_isr (k i : Nat) : Bool := (am_rt.getD k []).getD i false
def am_kinds : List (Nat × FieldType) := [(100, .int), (101, .boolean), (102, .long), (103 + 0, .object RX0), (103 + 1, .object RX1), (103 + 3, .object RX3), (103 + 4, .object RX4), (103 + 5, .object RX5)]
def am_aos : List String := [RX0, RX1, RX3, RX4, RX5]
def am_txs : List (String × Nat × String) := [("PhaserYard", 31, "no such body"), ("PhaserYard", 44, "no such body or instruction"), ("PhaserYard", 48, "the body is full"), ("PhaserYard", 55, "no such body, number of workers or policy"), ("PhaserYard", 64, "too few or too many ticks"), ("PhaserYard", 70, "nothing was begun"), ("PhaserYard", 83, "the run is stuck"), ("PhaserYard", 86, "the run is not over"), ("PhaserYard", 99, "a code came to the root scope"), ("PhaserYard", 125, "no such number is kept"), ("PhaserYard", 132, "no such question of a task"), ("PhaserYard", 137, "no such task"), ("PhaserYard", 143, "no such future"), ("PhaserYard", 149, "the future was not put"), ("PhaserYard", 171, "no such count")]
/-- static arrays: class, name, descriptor, the number of the outer array -/
def am_sts : List (String × String × String × Nat) := [("PhaserYard", "LEAST_A", "[I", 1), ("PhaserYard", "GREATEST_A", "[I", 2), ("PhaserYard", "TOTAL_OF_NOTHING", "[I", 3)]
def am_nst : List Cond := [(Jvm.Cond.methodLinkNest "PhaserYard$Run" (17 : Nat) ({ cls := "PhaserYard$Scope", name := "<init>", desc := "()V" } : Jvm.MethodName) "PhaserYard"), (Jvm.Cond.methodLinkNest "PhaserYard$Task" (25 : Nat) ({ cls := "PhaserYard$Scope", name := "<init>", desc := "()V" } : Jvm.MethodName) "PhaserYard"), (Jvm.Cond.castable "java/lang/IllegalArgumentException" "java/lang/IllegalArgumentException"), (Jvm.Cond.castable "java/lang/IllegalStateException" "java/lang/IllegalStateException"), (Jvm.Cond.fieldLinkNest "PhaserYard$Scope" (21 : Nat) "PhaserYard" "TOTAL_OF_NOTHING" "[I" "PhaserYard"), (Jvm.Cond.castable "java/lang/UnsupportedOperationException" "java/lang/UnsupportedOperationException"), (Jvm.Cond.castable "java/lang/ArithmeticException" "java/lang/ArithmeticException"), (Jvm.Cond.castable "java/lang/IndexOutOfBoundsException" "java/lang/IndexOutOfBoundsException")]
def am_ncs : List (String × String) := [("java/lang/IllegalStateException", "java/lang/IllegalArgumentException"), ("java/lang/UnsupportedOperationException", "java/lang/IllegalArgumentException"), ("java/lang/UnsupportedOperationException", "java/lang/IllegalStateException"), ("java/lang/ArithmeticException", "java/lang/IllegalStateException"), ("java/lang/IndexOutOfBoundsException", "java/lang/IllegalArgumentException")]
def am_tsq : List (String × String × String) := [("java/lang/Throwable", "UNASSIGNED_STACK", "[Ljava/lang/StackTraceElement;"), ("java/lang/Throwable", "SUPPRESSED_SENTINEL", "Ljava/util/List;")]
end
section
/-! THE ABSTRACT MACHINE, part 1: all cells that the law has made, as ONE heap of numbered cells: next number, shapes (kind, length), ints, references, longs, cells made, slots made.
Kinds: below 100 an object of that class of vwCl; 100 int[], 101 boolean[], 102 long[], 103 + k an array of class k's objects. Numbers from 1000000 on are arrays that were there before (the script, tables). -/
abbrev am_H : Type := Nat × (Nat → Nat × Nat) × (Nat → Nat → Int32) × (Nat → Nat → Option Nat) × (Nat → Nat → Int64) × Nat × Nat
def am_nx (H : am_H) : Nat := H.1
def am_sh (H : am_H) : Nat → Nat × Nat := H.2.1
def am_gi (H : am_H) : Nat → Nat → Int32 := H.2.2.1
def am_gr (H : am_H) : Nat → Nat → Option Nat := H.2.2.2.1
def am_gl (H : am_H) : Nat → Nat → Int64 := H.2.2.2.2.1
def am_nc (H : am_H) : Nat := H.2.2.2.2.2.1
def am_nz (H : am_H) : Nat := H.2.2.2.2.2.2
def am_u2 {α : Type} (f : Nat → Nat → α) (a k : Nat) (v : α) : Nat → Nat → α := fun x y => if x = a ∧ y = k then v else f x y
def am_si (H : am_H) (a k : Nat) (v : Int32) : am_H := (am_nx H, am_sh H, am_u2 (am_gi H) a k v, am_gr H, am_gl H, am_nc H, am_nz H)
def am_sr (H : am_H) (a k : Nat) (v : Option Nat) : am_H := (am_nx H, am_sh H, am_gi H, am_u2 (am_gr H) a k v, am_gl H, am_nc H, am_nz H)
def am_sl (H : am_H) (a k : Nat) (v : Int64) : am_H := (am_nx H, am_sh H, am_gi H, am_gr H, am_u2 (am_gl H) a k v, am_nc H, am_nz H)
/-- a row of ints anew -/
def am_sf (H : am_H) (a : Nat) (f : Nat → Int32) : am_H := (am_nx H, am_sh H, (fun x y => if x = a then f y else am_gi H x y), am_gr H, am_gl H, am_nc H, am_nz H)
/-- a new cell of kind k with n slots -/
def am_nw (H : am_H) (k n : Nat) : am_H := (am_nx H + 1, va_up (am_sh H) (am_nx H) (k, n), (fun x y => if x = am_nx H then 0 else am_gi H x y), (fun x y => if x = am_nx H then none else am_gr H x y), (fun x y => if x = am_nx H then 0 else am_gl H x y), am_nc H + 1, am_nz H + n)
/-- cells that are made and forgotten (an exception) -/
def am_ga (H : am_H) (k n : Nat) : am_H := (am_nx H, am_sh H, am_gi H, am_gr H, am_gl H, am_nc H + k, am_nz H + n)
theorem am_u2_self {α : Type} (f : Nat → Nat → α) (a k : Nat) (v : α) : am_u2 f a k v a k = v := by simp [am_u2]
theorem am_u2_ne {α : Type} (f : Nat → Nat → α) {a k x y : Nat} (v : α) (h : ¬ (x = a ∧ y = k)) : am_u2 f a k v x y = f x y := by simp only [am_u2, if_neg h]
-- values
def am_cv (ρ : Nat → Nat) (v : Value) : Value := match v with
  | .ref b => .ref (ρ b)
  | .int x => .int x
  | .long x => .long x
  | .float x => .float x
  | .double x => .double x
  | .null => .null
  | .retAddr x => .retAddr x
theorem am_cv_cat (ρ : Nat → Nat) (v : Value) : (am_cv ρ v).category = v.category := by cases v <;> rfl
theorem am_cv_rf (ρ : Nat → Nat) (r : Option Nat) : am_cv ρ (va_rf r) = va_rf (r.map ρ) := by cases r <;> rfl
def am_ok (n : Nat) (v : Value) : Prop := match v with
  | .ref b => b < n ∨ 1000000 ≤ b
  | _ => True
def am_cl (ρ : Nat → Nat) (lv : List (Nat × Value)) : List (Nat × Value) := lv.map (fun q => (q.1, am_cv ρ q.2))
def am_ext (n : Nat) (ρ ρ' : Nat → Nat) : Prop := ∀ b, (b < n ∨ 1000000 ≤ b) → ρ' b = ρ b
theorem am_ext.rf {n : Nat} {ρ : Nat → Nat} : am_ext n ρ ρ := fun _ _ => rfl
theorem am_ext.trans {n k : Nat} {ρ ρ1 ρ2 : Nat → Nat} (h1 : am_ext n ρ ρ1) (h2 : am_ext k ρ1 ρ2) (hn : n ≤ k) : am_ext n ρ ρ2 := fun b hb => (h2 b (by omega)).trans (h1 b hb)
theorem am_cv_ext {n : Nat} {ρ ρ' : Nat → Nat} (h : am_ext n ρ ρ') {v : Value} (hv : am_ok n v) : am_cv ρ' v = am_cv ρ v := by
  cases v with
  | ref b => show Value.ref (ρ' b) = Value.ref (ρ b); rw [h b hv]
  | _ => rfl
theorem am_cvs_ext {n : Nat} {ρ ρ' : Nat → Nat} (h : am_ext n ρ ρ') {st : List Value} (hv : ∀ v ∈ st, am_ok n v) : st.map (am_cv ρ') = st.map (am_cv ρ) := List.map_congr_left fun v m => am_cv_ext h (hv v m)
theorem am_cl_ext {n : Nat} {ρ ρ' : Nat → Nat} (h : am_ext n ρ ρ') {lv : List (Nat × Value)} (hv : ∀ q ∈ lv, am_ok n q.2) : am_cl ρ' lv = am_cl ρ lv := List.map_congr_left fun q m => by rw [am_cv_ext h (hv q m)]
-- cells
def am_fs (ρ : Nat → Nat) (H : am_H) (a k n : Nat) : List Value := (List.range n).map (fun i => if am_isr k i = true then va_rf ((am_gr H a i).map ρ) else .int (am_gi H a i))
def am_cell (τ : Nat → ClassId) (ρ : Nat → Nat) (H : am_H) (a : Nat) : va_E :=
  if (am_sh H a).1 < 100 then .inr ((am_sh H a).1, am_fs ρ H a (am_sh H a).1 (am_sh H a).2)
  else if (am_sh H a).1 < 102 then .inl (τ (am_sh H a).1, (am_sh H a).2, .inl (am_gi H a))
  else if (am_sh H a).1 < 103 then .inl (τ (am_sh H a).1, (am_sh H a).2, .inr (.inl (am_gl H a)))
  else .inl (τ (am_sh H a).1, (am_sh H a).2, .inr (.inr (.inr (.inr (fun i => (am_gr H a i).map ρ)))))
theorem am_cell_o {τ : Nat → ClassId} {ρ : Nat → Nat} {H : am_H} {a k n : Nat} (h : am_sh H a = (k, n)) (hk : k < 100) : am_cell τ ρ H a = .inr (k, am_fs ρ H a k n) := by
  simp only [am_cell, h, if_pos hk]
theorem am_cell_i {τ : Nat → ClassId} {ρ : Nat → Nat} {H : am_H} {a n : Nat} (h : am_sh H a = (100, n)) : am_cell τ ρ H a = .inl (τ 100, n, .inl (am_gi H a)) := by
  simp [am_cell, h]
theorem am_cell_z {τ : Nat → ClassId} {ρ : Nat → Nat} {H : am_H} {a n : Nat} (h : am_sh H a = (101, n)) : am_cell τ ρ H a = .inl (τ 101, n, .inl (am_gi H a)) := by
  simp [am_cell, h]
theorem am_cell_l {τ : Nat → ClassId} {ρ : Nat → Nat} {H : am_H} {a n : Nat} (h : am_sh H a = (102, n)) : am_cell τ ρ H a = .inl (τ 102, n, .inr (.inl (am_gl H a))) := by
  simp [am_cell, h]
theorem am_cell_q {τ : Nat → ClassId} {ρ : Nat → Nat} {H : am_H} {a k n : Nat} (h : am_sh H a = (103 + k, n)) : am_cell τ ρ H a = .inl (τ (103 + k), n, .inr (.inr (.inr (.inr (fun i => (am_gr H a i).map ρ))))) := by
  simp only [am_cell, h]
  rw [if_neg (by omega), if_neg (by omega), if_neg (by omega)]
theorem am_fs_at {ρ : Nat → Nat} {H : am_H} {a k n i : Nat} (hi : i < n) : (am_fs ρ H a k n)[i]? = some (if am_isr k i = true then va_rf ((am_gr H a i).map ρ) else .int (am_gi H a i)) := by
  simp [am_fs, hi]
theorem am_fs_len {ρ : Nat → Nat} {H : am_H} {a k n : Nat} : (am_fs ρ H a k n).length = n := by simp [am_fs]
def am_ws (τ : Nat → ClassId) (ρ : Nat → Nat) (H : am_H) : va_W := (List.range (am_nx H)).map (fun a => (ρ a, am_cell τ ρ H a))
theorem am_ws_at {τ : Nat → ClassId} {ρ : Nat → Nat} {H : am_H} {a : Nat} (h : a < am_nx H) : (am_ws τ ρ H)[a]? = some (ρ a, am_cell τ ρ H a) := by
  simp [am_ws, h]
theorem am_ws_set {τ : Nat → ClassId} {ρ : Nat → Nat} {H H2 : am_H} {a : Nat} {e : va_E} (hn : am_nx H2 = am_nx H) (he : am_cell τ ρ H2 a = e) (ho : ∀ b, b ≠ a → am_cell τ ρ H2 b = am_cell τ ρ H b) : (am_ws τ ρ H).set a (ρ a, e) = am_ws τ ρ H2 := by
  subst he
  apply List.ext_getElem?
  intro j
  unfold am_ws
  rw [hn, List.getElem?_set]
  by_cases hj : a = j
  · subst hj
    by_cases hl : a < am_nx H
    · simp [hl]
    · simp [hl]
  · simp only [if_neg hj, List.getElem?_map]
    by_cases hl : j < am_nx H
    · simp [hl, ho j (fun h => hj h.symm)]
    · simp [hl]
theorem am_cell_si {τ : Nat → ClassId} {ρ : Nat → Nat} {H : am_H} {a i b : Nat} {v : Int32} (h : b ≠ a) : am_cell τ ρ (am_si H a i v) b = am_cell τ ρ H b := by
  have e1 : am_gi (am_si H a i v) b = am_gi H b := by funext y; exact am_u2_ne _ _ (fun q => h q.1)
  have e2 : ∀ k n, am_fs ρ (am_si H a i v) b k n = am_fs ρ H b k n := fun k n => by unfold am_fs; rw [e1]; rfl
  unfold am_cell
  rw [e1, e2]; rfl
theorem am_cell_sf {τ : Nat → ClassId} {ρ : Nat → Nat} {H : am_H} {a b : Nat} {f : Nat → Int32} (h : b ≠ a) : am_cell τ ρ (am_sf H a f) b = am_cell τ ρ H b := by
  have e1 : am_gi (am_sf H a f) b = am_gi H b := by funext y; exact if_neg h
  have e2 : ∀ k n, am_fs ρ (am_sf H a f) b k n = am_fs ρ H b k n := fun k n => by unfold am_fs; rw [e1]; rfl
  unfold am_cell
  rw [e1, e2]; rfl
theorem am_cell_sl {τ : Nat → ClassId} {ρ : Nat → Nat} {H : am_H} {a i b : Nat} {v : Int64} (h : b ≠ a) : am_cell τ ρ (am_sl H a i v) b = am_cell τ ρ H b := by
  have e1 : am_gl (am_sl H a i v) b = am_gl H b := by funext y; exact am_u2_ne _ _ (fun q => h q.1)
  unfold am_cell
  rw [e1]; rfl
theorem am_cell_sr {τ : Nat → ClassId} {ρ : Nat → Nat} {H : am_H} {a i b : Nat} {v : Option Nat} (h : b ≠ a) : am_cell τ ρ (am_sr H a i v) b = am_cell τ ρ H b := by
  have e1 : am_gr (am_sr H a i v) b = am_gr H b := by funext y; exact am_u2_ne _ _ (fun q => h q.1)
  have e2 : ∀ k n, am_fs ρ (am_sr H a i v) b k n = am_fs ρ H b k n := fun k n => by unfold am_fs; rw [e1]; rfl
  unfold am_cell
  rw [e1, e2]; rfl
theorem am_fs_si {ρ : Nat → Nat} {H : am_H} {a k n i : Nat} {v : Int32} (hr : am_isr k i = false) : (am_fs ρ H a k n).set i (.int v) = am_fs ρ (am_si H a i v) a k n := by
  apply List.ext_getElem?
  intro j
  unfold am_fs
  rw [List.getElem?_set]
  by_cases hj : i = j
  · subst hj
    by_cases hl : i < n
    · simp [hl, hr, am_gi, am_si, am_u2]
    · simp [hl]
  · have e1 : am_gi (am_si H a i v) a j = am_gi H a j := am_u2_ne _ _ (fun q => hj q.2.symm)
    by_cases hl : j < n
    · simp [hj, hl, e1]; rfl
    · simp [hj, hl]
theorem am_fs_sr {ρ : Nat → Nat} {H : am_H} {a k n i : Nat} {v : Option Nat} (hr : am_isr k i = true) : (am_fs ρ H a k n).set i (va_rf (v.map ρ)) = am_fs ρ (am_sr H a i v) a k n := by
  apply List.ext_getElem?
  intro j
  unfold am_fs
  rw [List.getElem?_set]
  by_cases hj : i = j
  · subst hj
    by_cases hl : i < n
    · simp [hl, hr, am_gr, am_sr, am_u2]
    · simp [hl]
  · have e1 : am_gr (am_sr H a i v) a j = am_gr H a j := am_u2_ne _ _ (fun q => hj q.2.symm)
    by_cases hl : j < n
    · simp [hj, hl, e1]; rfl
    · simp [hj, hl]
theorem am_ws_nw {τ : Nat → ClassId} {ρ : Nat → Nat} {H : am_H} {k n q : Nat} {e : va_E} (hg : ∀ a i b, am_gr H a i = some b → b < am_nx H) (he : am_cell τ (va_up ρ (am_nx H) q) (am_nw H k n) (am_nx H) = e) : am_ws τ ρ H ++ [(q, e)] = am_ws τ (va_up ρ (am_nx H) q) (am_nw H k n) := by
  subst he
  have hc : ∀ a, a < am_nx H → am_cell τ (va_up ρ (am_nx H) q) (am_nw H k n) a = am_cell τ ρ H a := by
    intro a ha
    have hne : a ≠ am_nx H := by omega
    have e0 : am_sh (am_nw H k n) a = am_sh H a := va_up_ne _ _ hne
    have e1 : am_gi (am_nw H k n) a = am_gi H a := by funext y; exact if_neg hne
    have e2 : am_gl (am_nw H k n) a = am_gl H a := by funext y; exact if_neg hne
    have e3 : am_gr (am_nw H k n) a = am_gr H a := by funext y; exact if_neg hne
    have e4 : ∀ i, (am_gr H a i).map (va_up ρ (am_nx H) q) = (am_gr H a i).map ρ := by
      intro i
      cases hr : am_gr H a i with
      | none => rfl
      | some b => show some _ = some _; rw [va_up_ne _ _ (show b ≠ am_nx H by have := hg a i b hr; omega)]
    unfold am_cell am_fs
    rw [e0, e1, e2, e3]
    simp only [e4]
  unfold am_ws
  rw [show am_nx (am_nw H k n) = am_nx H + 1 from rfl, List.range_succ, List.map_append]
  congr 1
  · apply List.map_congr_left
    intro a ha
    have ha' : a < am_nx H := List.mem_range.mp ha
    rw [hc a ha', va_up_ne _ _ (show a ≠ am_nx H by omega)]
  · simp [va_up_self]
/-! THE ABSTRACT MACHINE, part 0: what was there before the law began and stays: arrays (the script, the class's tables), static fields, texts, array classes, links between nest mates. -/
/-- a static field that was there before, of a class that lays it, holds a reference or null -/
def am_Sq (z : String × String × String) (B0 : Nat) (U : State) (hp : Heap) : Prop := ∃ (c : ClassId) (k : Class) (i : Nat) (f : Field) (a : Nat) (cell : Cell) (v : Value), (U.vm.findClass z.1 = some c ∧ U.fieldFound? z.1 z.2.1 z.2.2 = some (c, k, i, f) ∧ k.statics = some a ∧ k.staticTypes[f.slot]? = some f.type) ∧ (f.isStatic = true ∧ hp[a]? = some cell ∧ cell.vm.isStatics = true ∧ cell.cls = c ∧ cell.slots[f.slot]? = some v ∧ v.isRef = true ∧ a < B0)
theorem am_Sq.moved {z : String × String × String} {B0 : Nat} {u U : State} {hp : Heap} (hvm : u.vm.Alike U.vm) (h : am_Sq z B0 u hp) : am_Sq z B0 U hp := by
  obtain ⟨c, k, i, f, a, cell, v, ⟨h1, h2, h3, h4⟩, h5⟩ := h
  obtain ⟨k', hi', he⟩ := State.fieldFound?_setVm hvm h2
  exact ⟨c, k', i, f, a, cell, v, ⟨by rw [hvm.findClass]; exact h1, hi', by rw [he]; exact h3, by rw [he]; exact h4⟩, h5⟩
theorem am_Sq.kept {z : String × String × String} {B0 : Nat} {U : State} {hp hp1 : Heap} (h : am_Sq z B0 U hp) (hq : ∀ a, a < B0 → hp1[a]? = hp[a]?) : am_Sq z B0 U hp1 := by
  obtain ⟨c, k, i, f, a, cell, v, h1, h2, h3, h4⟩ := h
  exact ⟨c, k, i, f, a, cell, v, h1, h2, (hq a h4.2.2.2.2).trans h3, h4⟩
theorem am_Sq.lays {z : String × String × String} {B0 : Nat} {s : State} {args : Array Value} (h : am_Sq z B0 s s.heap) : (Cond.laysStatic z.1 z.2.1 z.2.2).before args s = true := by
  obtain ⟨c, k, i, f, a, cell, v, ⟨h1, h2, h3, h4⟩, h5, h6, h7, h8, h9, -⟩ := h
  exact Cond.laysStatic_of h1 h2 h5 h3 h6 h7 h8 (Array.getElem?_eq_some_iff.mp h9).1 h4
theorem am_Sq.isRef {z : String × String × String} {B0 : Nat} {s : State} {args : Array Value} (h : am_Sq z B0 s s.heap) : (Cond.isRef (.static z.1 z.2.1 z.2.2)).before args s = true := by
  obtain ⟨c, k, i, f, a, cell, v, ⟨h1, h2, h3, h4⟩, h5, h6, h7, h8, h9, hv, -⟩ := h
  have he : (Term.static z.1 z.2.1 z.2.2).eval args s none [] s = some v := by
    simp [Term.eval, State.fieldNamed?, h2, h5, h3, h6, h7, h9]
  simp only [Cond.before, Cond.holds, Cond.value, he]
  cases v <;> simp_all [Value.isRef]
theorem am_Sq.of {z : String × String × String} {s : State} {args : Array Value} (hl : (Cond.laysStatic z.1 z.2.1 z.2.2).before args s = true) (hini : (Cond.initialized z.1).before args s = true) (h : (Cond.isRef (.static z.1 z.2.1 z.2.2)).before args s = true) : am_Sq z s.heap.size s s.heap := by
  obtain ⟨c, k, i, f, a, cell, h1, h2, h3, h4, h5, h6, h7, h8, h9⟩ := Cond.laysStatic_spec hl
  have hb := (Array.getElem?_eq_some_iff.mp h5).1
  refine ⟨c, k, i, f, a, cell, cell.slots[f.slot], ⟨h1, h2, h4, h9⟩, h3, h5, h6, h7, Array.getElem?_eq_getElem h8, ?_, hb⟩
  have he : (Term.static z.1 z.2.1 z.2.2).eval args s none [] s = some cell.slots[f.slot] := by
    simp [Term.eval, State.fieldNamed?, h2, h3, h4, h5, h6, Array.getElem?_eq_getElem h8]
  simp only [Cond.before, Cond.holds, Cond.value, he] at h
  generalize cell.slots[f.slot] = v at h
  cases v <;> simp_all [Value.isRef]
def am_O (ox : List (Nat × (Nat → Int32))) (B0 : Nat) (ρ : Nat → Nat) (s : State) : Prop :=
  (∀ (i : Nat) (r : Nat × (Nat → Int32)), ox[i]? = some r → va_X (ρ (1000000 + i)) r.1 r.2 s s.heap ∧ ρ (1000000 + i) < B0) ∧
  (∀ z ∈ am_sts, va_Z z.1 z.2.1 z.2.2.1 (.ref (ρ (1000000 + z.2.2.2))) (fun q => B0 ≤ q) s s.heap) ∧
  (∀ z ∈ am_txs, ∃ sa, vk_R z.1 z.2.1 z.2.2 sa s) ∧ (∀ C ∈ am_aos, va_AO C s) ∧ (∀ w ∈ am_nst, va_Nw w s) ∧ (∀ z ∈ am_tsq, am_Sq z B0 s s.heap) ∧ ∀ z ∈ am_ncs, va_Nc z.1 z.2 s
theorem am_O.ext {ox : List (Nat × (Nat → Int32))} {B0 n : Nat} {ρ ρ' : Nat → Nat} {s : State} (h : am_O ox B0 ρ s) (hx : am_ext n ρ ρ') : am_O ox B0 ρ' s := by
  have e : ∀ i, ρ' (1000000 + i) = ρ (1000000 + i) := fun i => hx _ (Or.inr (Nat.le_add_right _ _))
  refine ⟨fun i r hi => ?_, fun z hz => ?_, h.2.2⟩
  · rw [e]; exact h.1 i r hi
  · rw [e]; exact h.2.1 z hz
theorem am_nst_warm {w : Cond} (hw : w ∈ am_nst) {s U : State} (hW : s.WarmedH U.vm) (h : va_Nw w s) : va_Nw w U := by
  simp only [am_nst, List.mem_cons, List.not_mem_nil, or_false] at hw
  rcases hw with rfl | rfl | rfl | rfl | rfl | rfl | rfl | rfl <;> first | exact va_Nw.warmM hW h | exact va_Nw.warmF hW h | exact va_Nw.warmC hW h
theorem am_nst_tab : ∀ w ∈ am_nst, w.onTables = true := by decide +kernel
theorem am_O.to {ox : List (Nat × (Nat → Int32))} {B0 : Nat} {ρ : Nat → Nat} {s U : State} (h : am_O ox B0 ρ s) (hW : s.WarmedH U.vm) (hk : ∀ x, x < B0 → U.heap[x]? = s.heap[x]?) : am_O ox B0 ρ U := by
  have hk' : ∀ a : Nat, a < s.heap.size → ¬ B0 ≤ a → U.heap[a]? = s.heap[a]? := fun a _ ha => hk a (Nat.not_le.mp ha)
  refine ⟨fun i r hi => ⟨va_X.moved hW.alike ((h.1 i r hi).1.kept (hk _ (h.1 i r hi).2)), (h.1 i r hi).2⟩, fun z hz => va_Z.moved hW.alike ((h.2.1 z hz).kept hk'), fun z hz => ?_, fun C hC => va_AO.moved hW.alike (h.2.2.2.1 C hC), fun w hw => am_nst_warm hw hW (h.2.2.2.2.1 w hw), fun z hz => ((h.2.2.2.2.2.1 z hz).kept hk).moved hW.alike, fun z hz => (h.2.2.2.2.2.2 z hz).moved hW.alike⟩
  obtain ⟨sa, hs⟩ := h.2.2.1 z hz
  exact ⟨sa, hs.warm hW⟩
theorem am_O.calling {ox : List (Nat × (Nat → Int32))} {B0 : Nat} {ρ : Nat → Nat} {U : State} {g : JFrame} {mk : MethodId} {a : Array Value} (h : am_O ox B0 ρ U) : am_O ox B0 ρ (U.calling g mk a) := by
  refine ⟨fun i r hi => ⟨va_X.moved (u := U) (U := U.calling g mk a) (Vm.Alike.refl U.vm) (h.1 i r hi).1, (h.1 i r hi).2⟩, fun z hz => va_Z.moved (u := U) (U := U.calling g mk a) (Vm.Alike.refl U.vm) (h.2.1 z hz), fun z hz => ?_, fun C hC => va_AO.moved (u := U) (U := U.calling g mk a) (Vm.Alike.refl U.vm) (h.2.2.2.1 C hC), fun w hw => va_Nw.same (am_nst_tab w hw) (u := U) (U := U.calling g mk a) rfl (h.2.2.2.2.1 w hw), fun z hz => am_Sq.moved (u := U) (U := U.calling g mk a) (Vm.Alike.refl U.vm) (h.2.2.2.2.2.1 z hz), fun z hz => va_Nc.moved (u := U) (U := U.calling g mk a) (Vm.Alike.refl U.vm) (h.2.2.2.2.2.2 z hz)⟩
  obtain ⟨sa, hs⟩ := h.2.2.1 z hz
  exact ⟨sa, vk_R.same (u := U) (U := U.calling g mk a) rfl hs⟩
/-! THE ABSTRACT MACHINE, part 2: what is fixed while a method runs, the judgement am_V, the contract am_C. -/
def am_A (B0 : Nat) : Nat → Prop := fun q => B0 ≤ q
def am_tys (τ : Nat → ClassId) : List (ClassId × FieldType) := am_kinds.map (fun q => (τ q.1, q.2))
theorem am_tys_at {τ : Nat → ClassId} {t k : Nat} {ty : FieldType} (h : am_kinds[t]? = some (k, ty)) : (am_tys τ)[t]? = some (τ k, ty) := by
  simp [am_tys, h]
/-- the cells in a heap -/
def am_P (dC : Nat → ClassId) (dI : Nat → Nat → Nat) (τ : Nat → ClassId) (B0 : Nat) (ρ : Nat → Nat) (H : am_H) (hp : Heap) : Prop :=
  va_P (dC, dI) vwCl (am_ws τ ρ H) hp ∧ va_D (am_A B0) (am_ws τ ρ H) ∧ (∀ a i b, am_gr H a i = some b → b < am_nx H) ∧ am_nx H ≤ 1000000 ∧ B0 ≤ hp.size
/-- since the method's start the numbering has only grown -/
def am_J (nx0 : Nat) (ρ0 ρ : Nat → Nat) (H : am_H) : Prop := nx0 ≤ am_nx H ∧ (am_nx H = nx0 → ρ = ρ0) ∧ am_ext nx0 ρ0 ρ
/-- a method's end -/
def am_Q (dC : Nat → ClassId) (dI : Nat → Nat → Nat) (τ : Nat → ClassId) (B0 : Nat) (ρ0 : Nat → Nat) (nx0 : Nat) (o : Option Value ⊕ String) (H' : am_H) : Array Value → State → Outcome → State → Prop := fun _ st oc t =>
  (∃ (v : Option Value) (ρ' : Nat → Nat), o = .inl v ∧ oc = .returned (v.map (am_cv ρ')) ∧ am_J nx0 ρ0 ρ' H' ∧ am_P dC dI τ B0 ρ' H' t.heap) ∧ va_F (am_A B0) st t
def am_X (dC : Nat → ClassId) (dI : Nat → Nat → Nat) (τ : Nat → ClassId) (B0 : Nat) (ρ0 : Nat → Nat) (nx0 : Nat) (o : Option Value ⊕ String) (H' : am_H) : String → State → State → Prop := fun E st t =>
  (∃ ρ' : Nat → Nat, o = .inr E ∧ am_J nx0 ρ0 ρ' H' ∧ am_P dC dI τ B0 ρ' H' t.heap) ∧ va_F (am_A B0) st t
/-- where a method has thrown q: the class by its name, its cell, what was written -/
def am_T (XC : String → State → State → Prop) (st : State) (q : Addr) (t : State) (mc ms : Nat) (free : Addr → Prop) : Prop :=
  ∃ (E : String) (ce : Cell), (XC E st t ∧ t.heap[q]? = some ce ∧ ce.vm = .none ∧ st.vm.findClass E = some ce.cls) ∧ ∃ L : List Loc, st.WarmedH t.vm ∧ st.sameButNew ({ t with vm := st.vm } : State) L mc ms ∧ ∀ z ∈ L, free z.base
def am_QQ (Qc : Array Value → State → Outcome → State → Prop) (XC : String → State → State → Prop) (mc ms : Nat) (free : Addr → Prop) : Array Value → State → Outcome → State → Prop := fun a st o t =>
  (Qc a st o t ∧ ∃ L, FrameEnd st o t L mc ms ∧ ∀ q ∈ L, free q.base) ∨ ∃ q, o = .threw q ∧ am_T XC st q t mc ms free
/-- a method that returns, or throws -/
def am_Met (l : Launch) (y : MethodName) (ws : List Cond) (rm : Room) (Pc : Array Value → State → Prop) (Qc : Array Value → State → Outcome → State → Prop) (XC : String → State → State → Prop) (mc ms : Nat) (free : Addr → Prop) : Prop :=
  MetFree l y (headSpec ws rm) Pc (fun _ _ _ _ _ => True) (am_QQ Qc XC mc ms free)
def am_MQ (below : List Frame) (Qc : Array Value → State → Outcome → State → Prop) (XC : String → State → State → Prop) (a : Array Value) (s : State) (mc ms : Nat) (free : Addr → Prop) : State → Prop := fun t =>
  ∃ o, t.status = .running ∧ Ended t below o ∧ am_QQ Qc XC mc ms free a s o t
theorem am_ret {p : Program} {l : Launch} {e : Env} {R : Room} {s : State} {m : MethodId} {args : Array Value} {below : List Frame} {meth : Method} {c : Code} {H : Heap} {locs : List Loc} {cells slots mc ms : Nat} {free : Addr → Prop} {g : JFrame} {Qc : Array Value → State → Outcome → State → Prop} {XC : String → State → State → Prop} (k : W p l e R s m args below meth c H locs cells slots (MQ below Qc args s mc ms free) g) : W p l e R s m args below meth c H locs cells slots (am_MQ below Qc XC args s mc ms free) g := by
  intro T hT X
  obtain ⟨t, a1, o, b1, b2, b3⟩ := k T hT X
  exact ⟨t, a1, o, b1, b2, Or.inl b3⟩
theorem am_ofW {l : Launch} {y : MethodName} {ws ws' : List Cond} {rm : Room} {Pc : Array Value → State → Prop} {Qc : Array Value → State → Outcome → State → Prop} {XC : String → State → State → Prop} {mc ms : Nat} {free : Addr → Prop} {cc : ByteArray} {maxL : Nat} {ret : Option FieldType}
    (hy : plainName y.cls = true) (hw : ws = Cond.code y cc maxL ret :: ws')
    (body : ∀ p e s m args below meth c s₁, BodyLoose p l y (headSpec ws rm) cc maxL ret e s m args below meth c s₁ → c.maxLocals = maxL → c.exceptionTable.toList = [] → Pc args s →
      W p l e (headSpec ws rm).room s m args below meth c s.heap [] 0 0 (am_MQ below Qc XC args s mc ms free) (entryFrame m args maxL)) : am_Met l y ws rm Pc Qc XC mc ms free := by
  have hmem : Cond.code y cc maxL ret ∈ ws := by rw [hw]; exact List.mem_cons_self
  refine MetFree.of_bodyS (code := cc) (maxLocals := maxL) (ret := ret) hy (fun args s m h hn => ?_) (fun p e s m args below meth c s₁ B hml hP _ => ?_)
  · obtain ⟨meth, c, h1, h2, h3, h4, h5, h6, -, -⟩ := Cond.code_spec hn (atoms_spec (ws := ws) h _ hmem)
    exact ⟨meth, c, h1, h2, h3, h4, h5, h6⟩
  · have hh0 : s₁.heap = s.heap := by rw [B.state]; rfl
    obtain ⟨meth9, c9, h1, h2, -, -, -, -, h7, -⟩ := Cond.code_spec B.named (atoms_spec (ws := ws) B.pre _ hmem)
    cases Option.some.inj (h1.symm.trans B.method)
    cases Option.some.inj (h2.symm.trans (Stand.of_body B).code)
    obtain ⟨t, a1, o, b1, b2, b3⟩ := body p e s m args below meth _ s₁ B hml (by rw [Array.isEmpty_iff.mp h7]) hP s₁ hh0 (Stand.of_body B)
    exact ⟨t, o, a1, b1, b2, b3⟩
/-- a method: its class, code, locals, answer's type, name, handlers -/
abbrev am_M : Type := String × ByteArray × Nat × Option FieldType × String × List ExceptionTableEntry
def am_Cx (ox : List (Nat × (Nat → Int32))) (d : Nat) (M : am_M) (l : Launch) (p : Program) (R : Room) (s : State) (m : MethodId) (args : Array Value) (meth : Method) (c : Code) (dC : Nat → ClassId) (dI : Nat → Nat → Nat) (τ : Nat → ClassId) (B0 : Nat) (ρ0 : Nat → Nat) (n0 z0 : Nat) (H' : am_H) : Prop :=
  p.tables.exec = Jvm.exec ∧ c.code = M.2.1 ∧ c.maxLocals = M.2.2.1 ∧ meth.sig.returnType = M.2.2.2.1 ∧ s.vm.findClass M.1 = some m.cls ∧ (∀ w ∈ am_words, w.before args s = true) ∧ meth.locks = false ∧ va_K (dC, dI) vwCl (am_tys τ) s ∧
  l.stackTraces = false ∧ B0 ≤ s.heap.size ∧ d ≤ R.frames ∧ 116 + 26 * d ≤ R.locals ∧ am_nc H' ≤ n0 + R.cells ∧ am_nz H' ≤ z0 + R.slots ∧ (M.2.2.2.2.1 ≠ "" → meth.name = M.2.2.2.2.1) ∧ (M.2.2.2.2.1 ≠ "" → c.exceptionTable.toList = M.2.2.2.2.2) ∧ am_O ox B0 ρ0 s
def am_St (nL : Nat) (lv : List (Nat × Value)) (H : am_H) (s : State) (dC : Nat → ClassId) (dI : Nat → Nat → Nat) (τ : Nat → ClassId) (B0 : Nat) (ρ0 : Nat → Nat) (nx0 n0 z0 : Nat) (ρ : Nat → Nat) (hp : Heap) (locs : List Loc) (cells slots : Nat) (ls : Array Slot) : Prop :=
  am_J nx0 ρ0 ρ H ∧ am_P dC dI τ B0 ρ H hp ∧ va_S (am_A B0) s.heap hp locs ∧ cells + n0 = am_nc H ∧ slots + z0 = am_nz H ∧ lv_has ls nL (am_cl ρ lv)
/-- from this frame the method comes to its end o with the heap H' -/
def am_V (ox : List (Nat × (Nat → Int32))) (d : Nat) (M : am_M) (pc : Nat) (lv : List (Nat × Value)) (st : List Value) (H : am_H) (o : Option Value ⊕ String) (H' : am_H) : Prop :=
  ∀ (l : Launch) (p : Program) (e : Env) (R : Room) (s : State) (m : MethodId) (args : Array Value) (below : List Frame) (meth : Method) (c : Code) (dC : Nat → ClassId) (dI : Nat → Nat → Nat) (τ : Nat → ClassId) (B0 : Nat) (ρ0 : Nat → Nat) (nx0 n0 z0 : Nat),
    am_Cx ox d M l p R s m args meth c dC dI τ B0 ρ0 n0 z0 H' → ∀ (ρ : Nat → Nat) (hp : Heap) (locs : List Loc) (cells slots : Nat) (ls : Array Slot),
      am_St M.2.2.1 lv H s dC dI τ B0 ρ0 nx0 n0 z0 ρ hp locs cells slots ls →
      W p l e R s m args below meth c hp locs cells slots (am_MQ below (am_Q dC dI τ B0 ρ0 nx0 o H') (am_X dC dI τ B0 ρ0 nx0 o H') args s (am_nc H' - n0) (am_nz H' - z0) (am_A B0)) (F0 m pc ls (st.map (am_cv ρ)))
def am_rm (d mc ms : Nat) : Room := { frames := d, cells := mc, slots := ms, locals := 116 + 26 * d }
/-- a method's start -/

def am_B (ox : List (Nat × (Nat → Int32))) (dC : Nat → ClassId) (dI : Nat → Nat → Nat) (τ : Nat → ClassId) (B0 : Nat) (ρ : Nat → Nat) (H : am_H) (U : State) : Prop :=
  am_P dC dI τ B0 ρ H U.heap ∧ va_K (dC, dI) vwCl (am_tys τ) U ∧ am_O ox B0 ρ U
-- locals
def am_lk (i : Nat) : List (Nat × Value) → Option Value
  | [] => none
  | q :: r => if q.1 = i then some q.2 else am_lk i r
theorem am_lk_mem {i : Nat} {v : Value} : ∀ {lv : List (Nat × Value)}, am_lk i lv = some v → (i, v) ∈ lv
  | [], h => by cases h
  | q :: r, h => by
    unfold am_lk at h
    by_cases hq : q.1 = i
    · rw [if_pos hq] at h
      have e : q = (i, v) := by cases q; cases h; cases hq; rfl
      rw [e]; exact List.mem_cons_self
    · rw [if_neg hq] at h
      exact List.mem_cons_of_mem _ (am_lk_mem h)
theorem am_lk_at {ls : Array Slot} {nL i : Nat} {ρ : Nat → Nat} {lv : List (Nat × Value)} {v : Value} (h : lv_has ls nL (am_cl ρ lv)) (hk : am_lk i lv = some v) : ls[i]? = some (.val (am_cv ρ v)) :=
  h.2.2 (i, am_cv ρ v) (List.mem_map.mpr ⟨(i, v), am_lk_mem hk, rfl⟩)
def am_sv (i : Nat) (v : Value) (lv : List (Nat × Value)) : List (Nat × Value) := (i, v) :: lv.filter (fun q => !(q.1 == i) && !(q.1 + 1 == i && q.2.category == 2))
theorem am_sv_cl {i : Nat} {v : Value} {lv : List (Nat × Value)} {ρ : Nat → Nat} : (i, am_cv ρ v) :: (am_cl ρ lv).filter (fun q => !(q.1 == i) && !(q.1 + 1 == i && q.2.category == 2)) = am_cl ρ (am_sv i v lv) := by
  unfold am_cl am_sv
  rw [List.map_cons, List.filter_map]
  congr 2
  apply List.filter_congr
  intro q _
  simp [am_cv_cat]
end
section
section AMR
variable {ox : List (Nat × (Nat → Int32))} {d : Nat} {M : am_M} {pc q : Nat} {lv : List (Nat × Value)} {st : List Value} {H H' : am_H} {o : Option Value ⊕ String}
theorem am_iconst {n : Int} {v : Int32} (hd : decode M.2.1 pc = .ok (.iconst n, 1)) (hv : Int32.ofInt n = v) (hq : pc + 1 = q) (k : am_V ox d M q lv (.int v :: st) H o H') : am_V ox d M pc lv st H o H' := by
  subst hq
  intro l p e R s m args below meth c dC dI τ B0 ρ0 nx0 n0 z0 C ρ hp locs cells slots ls S
  exact lv_iconst C.1 C.2.1 hd hv (k l p e R s m args below meth c dC dI τ B0 ρ0 nx0 n0 z0 C ρ hp locs cells slots ls S)
theorem am_bipush {n : Int} {v : Int32} (hd : decode M.2.1 pc = .ok (.bipush n, 2)) (hv : (Int8.ofInt n).toInt32 = v) (hq : pc + 2 = q) (k : am_V ox d M q lv (.int v :: st) H o H') : am_V ox d M pc lv st H o H' := by
  subst hq
  intro l p e R s m args below meth c dC dI τ B0 ρ0 nx0 n0 z0 C ρ hp locs cells slots ls S
  exact lv_bipush C.1 C.2.1 hd hv (k l p e R s m args below meth c dC dI τ B0 ρ0 nx0 n0 z0 C ρ hp locs cells slots ls S)
theorem am_sipush {n : Int} {v : Int32} (hd : decode M.2.1 pc = .ok (.sipush n, 3)) (hv : (Int16.ofInt n).toInt32 = v) (hq : pc + 3 = q) (k : am_V ox d M q lv (.int v :: st) H o H') : am_V ox d M pc lv st H o H' := by
  subst hq
  intro l p e R s m args below meth c dC dI τ B0 ρ0 nx0 n0 z0 C ρ hp locs cells slots ls S
  exact lv_sipush C.1 C.2.1 hd hv (k l p e R s m args below meth c dC dI τ B0 ρ0 nx0 n0 z0 C ρ hp locs cells slots ls S)
theorem am_ldc {n : Nat} {v : Int32} (hd : decode M.2.1 pc = .ok (.ldc n, 2)) (hv : Cond.constant M.1 n v ∈ am_words) (hq : pc + 2 = q) (k : am_V ox d M q lv (.int v :: st) H o H') : am_V ox d M pc lv st H o H' := by
  subst hq
  intro l p e R s m args below meth c dC dI τ B0 ρ0 nx0 n0 z0 C ρ hp locs cells slots ls S
  exact lv_ldc C.1 C.2.1 C.2.2.2.2.1 (C.2.2.2.2.2.1 _ hv) hd (k l p e R s m args below meth c dC dI τ B0 ρ0 nx0 n0 z0 C ρ hp locs cells slots ls S)
theorem am_iload_n {i : Nat} {x : Int32} {w : Fin 4} (hd : decode M.2.1 pc = .ok (.iload_n w, 1)) (hi : (w : Nat) = i) (hl : am_lk i lv = some (.int x)) (hq : pc + 1 = q) (k : am_V ox d M q lv (.int x :: st) H o H') : am_V ox d M pc lv st H o H' := by
  subst hq
  intro l p e R s m args below meth c dC dI τ B0 ρ0 nx0 n0 z0 C ρ hp locs cells slots ls S
  exact lv_iload_n C.1 C.2.1 hd hi (am_lk_at S.2.2.2.2.2 hl) (k l p e R s m args below meth c dC dI τ B0 ρ0 nx0 n0 z0 C ρ hp locs cells slots ls S)
theorem am_iload {i : Nat} {x : Int32} (hd : decode M.2.1 pc = .ok (.iload i, 2)) (hl : am_lk i lv = some (.int x)) (hq : pc + 2 = q) (k : am_V ox d M q lv (.int x :: st) H o H') : am_V ox d M pc lv st H o H' := by
  subst hq
  intro l p e R s m args below meth c dC dI τ B0 ρ0 nx0 n0 z0 C ρ hp locs cells slots ls S
  exact lv_iload C.1 C.2.1 hd (am_lk_at S.2.2.2.2.2 hl) (k l p e R s m args below meth c dC dI τ B0 ρ0 nx0 n0 z0 C ρ hp locs cells slots ls S)
theorem am_aload_n {i : Nat} {x : Nat} {w : Fin 4} (hd : decode M.2.1 pc = .ok (.aload_n w, 1)) (hi : (w : Nat) = i) (hl : am_lk i lv = some (.ref x)) (hq : pc + 1 = q) (k : am_V ox d M q lv (.ref x :: st) H o H') : am_V ox d M pc lv st H o H' := by
  subst hq
  intro l p e R s m args below meth c dC dI τ B0 ρ0 nx0 n0 z0 C ρ hp locs cells slots ls S
  exact lv_aload_n C.1 C.2.1 hd hi (am_lk_at S.2.2.2.2.2 hl) (k l p e R s m args below meth c dC dI τ B0 ρ0 nx0 n0 z0 C ρ hp locs cells slots ls S)
theorem am_aload {i : Nat} {x : Nat} (hd : decode M.2.1 pc = .ok (.aload i, 2)) (hl : am_lk i lv = some (.ref x)) (hq : pc + 2 = q) (k : am_V ox d M q lv (.ref x :: st) H o H') : am_V ox d M pc lv st H o H' := by
  subst hq
  intro l p e R s m args below meth c dC dI τ B0 ρ0 nx0 n0 z0 C ρ hp locs cells slots ls S
  exact lv_aload C.1 C.2.1 hd (am_lk_at S.2.2.2.2.2 hl) (k l p e R s m args below meth c dC dI τ B0 ρ0 nx0 n0 z0 C ρ hp locs cells slots ls S)
theorem am_iadd {x y : Int32} (hd : decode M.2.1 pc = .ok (.iadd, 1))  (hq : pc + 1 = q) (k : am_V ox d M q lv (.int (x + y) :: st) H o H') : am_V ox d M pc lv (.int y :: .int x :: st) H o H' := by
  subst hq
  intro l p e R s m args below meth c dC dI τ B0 ρ0 nx0 n0 z0 C ρ hp locs cells slots ls S
  exact lv_iadd C.1 C.2.1 hd (k l p e R s m args below meth c dC dI τ B0 ρ0 nx0 n0 z0 C ρ hp locs cells slots ls S)
theorem am_isub {x y : Int32} (hd : decode M.2.1 pc = .ok (.isub, 1))  (hq : pc + 1 = q) (k : am_V ox d M q lv (.int (x - y) :: st) H o H') : am_V ox d M pc lv (.int y :: .int x :: st) H o H' := by
  subst hq
  intro l p e R s m args below meth c dC dI τ B0 ρ0 nx0 n0 z0 C ρ hp locs cells slots ls S
  exact lv_isub C.1 C.2.1 hd (k l p e R s m args below meth c dC dI τ B0 ρ0 nx0 n0 z0 C ρ hp locs cells slots ls S)
theorem am_imul {x y : Int32} (hd : decode M.2.1 pc = .ok (.imul, 1))  (hq : pc + 1 = q) (k : am_V ox d M q lv (.int (x * y) :: st) H o H') : am_V ox d M pc lv (.int y :: .int x :: st) H o H' := by
  subst hq
  intro l p e R s m args below meth c dC dI τ B0 ρ0 nx0 n0 z0 C ρ hp locs cells slots ls S
  exact lv_imul C.1 C.2.1 hd (k l p e R s m args below meth c dC dI τ B0 ρ0 nx0 n0 z0 C ρ hp locs cells slots ls S)
theorem am_iand {x y : Int32} (hd : decode M.2.1 pc = .ok (.iand, 1))  (hq : pc + 1 = q) (k : am_V ox d M q lv (.int (x &&& y) :: st) H o H') : am_V ox d M pc lv (.int y :: .int x :: st) H o H' := by
  subst hq
  intro l p e R s m args below meth c dC dI τ B0 ρ0 nx0 n0 z0 C ρ hp locs cells slots ls S
  exact lv_iand C.1 C.2.1 hd (k l p e R s m args below meth c dC dI τ B0 ρ0 nx0 n0 z0 C ρ hp locs cells slots ls S)
theorem am_ior {x y : Int32} (hd : decode M.2.1 pc = .ok (.ior, 1))  (hq : pc + 1 = q) (k : am_V ox d M q lv (.int (x ||| y) :: st) H o H') : am_V ox d M pc lv (.int y :: .int x :: st) H o H' := by
  subst hq
  intro l p e R s m args below meth c dC dI τ B0 ρ0 nx0 n0 z0 C ρ hp locs cells slots ls S
  exact lv_ior C.1 C.2.1 hd (k l p e R s m args below meth c dC dI τ B0 ρ0 nx0 n0 z0 C ρ hp locs cells slots ls S)
theorem am_ixor {x y : Int32} (hd : decode M.2.1 pc = .ok (.ixor, 1))  (hq : pc + 1 = q) (k : am_V ox d M q lv (.int (x ^^^ y) :: st) H o H') : am_V ox d M pc lv (.int y :: .int x :: st) H o H' := by
  subst hq
  intro l p e R s m args below meth c dC dI τ B0 ρ0 nx0 n0 z0 C ρ hp locs cells slots ls S
  exact lv_ixor C.1 C.2.1 hd (k l p e R s m args below meth c dC dI τ B0 ρ0 nx0 n0 z0 C ρ hp locs cells slots ls S)
theorem am_idiv {x y : Int32} (hd : decode M.2.1 pc = .ok (.idiv, 1)) (hne : ¬ y = 0) (hq : pc + 1 = q) (k : am_V ox d M q lv (.int (x / y) :: st) H o H') : am_V ox d M pc lv (.int y :: .int x :: st) H o H' := by
  subst hq
  intro l p e R s m args below meth c dC dI τ B0 ρ0 nx0 n0 z0 C ρ hp locs cells slots ls S
  exact lv_idiv C.1 C.2.1 hd hne (k l p e R s m args below meth c dC dI τ B0 ρ0 nx0 n0 z0 C ρ hp locs cells slots ls S)
theorem am_irem {x y : Int32} (hd : decode M.2.1 pc = .ok (.irem, 1)) (hne : ¬ y = 0) (hq : pc + 1 = q) (k : am_V ox d M q lv (.int (x - x / y * y) :: st) H o H') : am_V ox d M pc lv (.int y :: .int x :: st) H o H' := by
  subst hq
  intro l p e R s m args below meth c dC dI τ B0 ρ0 nx0 n0 z0 C ρ hp locs cells slots ls S
  exact lv_irem C.1 C.2.1 hd hne (k l p e R s m args below meth c dC dI τ B0 ρ0 nx0 n0 z0 C ρ hp locs cells slots ls S)
theorem am_ineg {x : Int32} (hd : decode M.2.1 pc = .ok (.ineg, 1))  (hq : pc + 1 = q) (k : am_V ox d M q lv (.int (-x) :: st) H o H') : am_V ox d M pc lv (.int x :: st) H o H' := by
  subst hq
  intro l p e R s m args below meth c dC dI τ B0 ρ0 nx0 n0 z0 C ρ hp locs cells slots ls S
  exact lv_ineg C.1 C.2.1 hd (k l p e R s m args below meth c dC dI τ B0 ρ0 nx0 n0 z0 C ρ hp locs cells slots ls S)
theorem am_ishl {x y : Int32} (hd : decode M.2.1 pc = .ok (.ishl, 1))  (hq : pc + 1 = q) (k : am_V ox d M q lv (.int (x <<< (y &&& 31)) :: st) H o H') : am_V ox d M pc lv (.int y :: .int x :: st) H o H' := by
  subst hq
  intro l p e R s m args below meth c dC dI τ B0 ρ0 nx0 n0 z0 C ρ hp locs cells slots ls S
  exact lv_ishl C.1 C.2.1 hd (k l p e R s m args below meth c dC dI τ B0 ρ0 nx0 n0 z0 C ρ hp locs cells slots ls S)
theorem am_ishr {x y : Int32} (hd : decode M.2.1 pc = .ok (.ishr, 1))  (hq : pc + 1 = q) (k : am_V ox d M q lv (.int (x >>> (y &&& 31)) :: st) H o H') : am_V ox d M pc lv (.int y :: .int x :: st) H o H' := by
  subst hq
  intro l p e R s m args below meth c dC dI τ B0 ρ0 nx0 n0 z0 C ρ hp locs cells slots ls S
  exact lv_ishr C.1 C.2.1 hd (k l p e R s m args below meth c dC dI τ B0 ρ0 nx0 n0 z0 C ρ hp locs cells slots ls S)
theorem am_i2l {x : Int32} (hd : decode M.2.1 pc = .ok (.i2l, 1))  (hq : pc + 1 = q) (k : am_V ox d M q lv (.long x.toInt64 :: st) H o H') : am_V ox d M pc lv (.int x :: st) H o H' := by
  subst hq
  intro l p e R s m args below meth c dC dI τ B0 ρ0 nx0 n0 z0 C ρ hp locs cells slots ls S
  exact lv_i2l C.1 C.2.1 hd rfl (k l p e R s m args below meth c dC dI τ B0 ρ0 nx0 n0 z0 C ρ hp locs cells slots ls S)
theorem am_lcmp {x y : Int64} (hd : decode M.2.1 pc = .ok (.lcmp, 1))  (hq : pc + 1 = q) (k : am_V ox d M q lv (.int (lg_cmp x y) :: st) H o H') : am_V ox d M pc lv (.long y :: .long x :: st) H o H' := by
  subst hq
  intro l p e R s m args below meth c dC dI τ B0 ρ0 nx0 n0 z0 C ρ hp locs cells slots ls S
  exact W.lcmp C.1 C.2.1 hd (k l p e R s m args below meth c dC dI τ B0 ρ0 nx0 n0 z0 C ρ hp locs cells slots ls S)
theorem am_dup {a : Value} (hd : decode M.2.1 pc = .ok (.dup, 1)) (ha : a.category = 1) (hq : pc + 1 = q) (k : am_V ox d M q lv (a :: a :: st) H o H') : am_V ox d M pc lv (a :: st) H o H' := by
  subst hq
  intro l p e R s m args below meth c dC dI τ B0 ρ0 nx0 n0 z0 C ρ hp locs cells slots ls S
  exact lv_dup C.1 C.2.1 hd (by rw [am_cv_cat]; exact ha) (k l p e R s m args below meth c dC dI τ B0 ρ0 nx0 n0 z0 C ρ hp locs cells slots ls S)
theorem am_pop {a : Value} (hd : decode M.2.1 pc = .ok (.pop, 1)) (ha : a.category = 1) (hq : pc + 1 = q) (k : am_V ox d M q lv st H o H') : am_V ox d M pc lv (a :: st) H o H' := by
  subst hq
  intro l p e R s m args below meth c dC dI τ B0 ρ0 nx0 n0 z0 C ρ hp locs cells slots ls S
  exact lv_pop C.1 C.2.1 hd (by rw [am_cv_cat]; exact ha) (k l p e R s m args below meth c dC dI τ B0 ρ0 nx0 n0 z0 C ρ hp locs cells slots ls S)
theorem am_dup_x1 {a b : Value} (hd : decode M.2.1 pc = .ok (.dup_x1, 1)) (ha : a.category = 1) (hb : b.category = 1) (hq : pc + 1 = q) (k : am_V ox d M q lv (a :: b :: a :: st) H o H') : am_V ox d M pc lv (a :: b :: st) H o H' := by
  subst hq
  intro l p e R s m args below meth c dC dI τ B0 ρ0 nx0 n0 z0 C ρ hp locs cells slots ls S
  exact lv_dup_x1 C.1 C.2.1 hd (by rw [am_cv_cat]; exact ha) (by rw [am_cv_cat]; exact hb) (k l p e R s m args below meth c dC dI τ B0 ρ0 nx0 n0 z0 C ρ hp locs cells slots ls S)
theorem am_dup2 {a b : Value} (hd : decode M.2.1 pc = .ok (.dup2, 1)) (ha : a.category = 1) (hb : b.category = 1) (hq : pc + 1 = q) (k : am_V ox d M q lv (a :: b :: a :: b :: st) H o H') : am_V ox d M pc lv (a :: b :: st) H o H' := by
  subst hq
  intro l p e R s m args below meth c dC dI τ B0 ρ0 nx0 n0 z0 C ρ hp locs cells slots ls S
  exact lv_dup2_11 C.1 C.2.1 hd (by rw [am_cv_cat]; exact ha) (by rw [am_cv_cat]; exact hb) (k l p e R s m args below meth c dC dI τ B0 ρ0 nx0 n0 z0 C ρ hp locs cells slots ls S)
theorem am_goto {off : Int} (hd : decode M.2.1 pc = .ok (.goto off, 3)) (ht : (pc : Int) + off = (q : Int)) (k : am_V ox d M q lv st H o H') : am_V ox d M pc lv st H o H' := by
  intro l p e R s m args below meth c dC dI τ B0 ρ0 nx0 n0 z0 C ρ hp locs cells slots ls S
  exact lv_goto C.1 C.2.1 hd ht (k l p e R s m args below meth c dC dI τ B0 ρ0 nx0 n0 z0 C ρ hp locs cells slots ls S)
theorem am_if_eq {x : Int32} {off : Int} {t : Nat} (hd : decode M.2.1 pc = .ok (.ifCond .eq off, 3)) (ht : (pc : Int) + off = (t : Int)) (hq : pc + 3 = q) (kt : x = 0 → am_V ox d M t lv st H o H') (kf : ¬ x = 0 → am_V ox d M q lv st H o H') : am_V ox d M pc lv (.int x :: st) H o H' := by
  subst hq
  intro l p e R s m args below meth c dC dI τ B0 ρ0 nx0 n0 z0 C ρ hp locs cells slots ls S
  exact lv_if_eq C.1 C.2.1 hd ht (fun h => kt h l p e R s m args below meth c dC dI τ B0 ρ0 nx0 n0 z0 C ρ hp locs cells slots ls S) (fun h => kf h l p e R s m args below meth c dC dI τ B0 ρ0 nx0 n0 z0 C ρ hp locs cells slots ls S)
theorem am_icmp_eq {x y : Int32} {off : Int} {t : Nat} (hd : decode M.2.1 pc = .ok (.if_icmp .eq off, 3)) (ht : (pc : Int) + off = (t : Int)) (hq : pc + 3 = q) (kt : x = y → am_V ox d M t lv st H o H') (kf : ¬ x = y → am_V ox d M q lv st H o H') : am_V ox d M pc lv (.int y :: .int x :: st) H o H' := by
  subst hq
  intro l p e R s m args below meth c dC dI τ B0 ρ0 nx0 n0 z0 C ρ hp locs cells slots ls S
  exact lv_icmp_eq C.1 C.2.1 hd ht (fun h => kt h l p e R s m args below meth c dC dI τ B0 ρ0 nx0 n0 z0 C ρ hp locs cells slots ls S) (fun h => kf h l p e R s m args below meth c dC dI τ B0 ρ0 nx0 n0 z0 C ρ hp locs cells slots ls S)
theorem am_if_ne {x : Int32} {off : Int} {t : Nat} (hd : decode M.2.1 pc = .ok (.ifCond .ne off, 3)) (ht : (pc : Int) + off = (t : Int)) (hq : pc + 3 = q) (kt : ¬ x = 0 → am_V ox d M t lv st H o H') (kf : x = 0 → am_V ox d M q lv st H o H') : am_V ox d M pc lv (.int x :: st) H o H' := by
  subst hq
  intro l p e R s m args below meth c dC dI τ B0 ρ0 nx0 n0 z0 C ρ hp locs cells slots ls S
  exact lv_if_ne C.1 C.2.1 hd ht (fun h => kt h l p e R s m args below meth c dC dI τ B0 ρ0 nx0 n0 z0 C ρ hp locs cells slots ls S) (fun h => kf h l p e R s m args below meth c dC dI τ B0 ρ0 nx0 n0 z0 C ρ hp locs cells slots ls S)
theorem am_icmp_ne {x y : Int32} {off : Int} {t : Nat} (hd : decode M.2.1 pc = .ok (.if_icmp .ne off, 3)) (ht : (pc : Int) + off = (t : Int)) (hq : pc + 3 = q) (kt : ¬ x = y → am_V ox d M t lv st H o H') (kf : x = y → am_V ox d M q lv st H o H') : am_V ox d M pc lv (.int y :: .int x :: st) H o H' := by
  subst hq
  intro l p e R s m args below meth c dC dI τ B0 ρ0 nx0 n0 z0 C ρ hp locs cells slots ls S
  exact lv_icmp_ne C.1 C.2.1 hd ht (fun h => kt h l p e R s m args below meth c dC dI τ B0 ρ0 nx0 n0 z0 C ρ hp locs cells slots ls S) (fun h => kf h l p e R s m args below meth c dC dI τ B0 ρ0 nx0 n0 z0 C ρ hp locs cells slots ls S)
theorem am_if_lt {x : Int32} {off : Int} {t : Nat} (hd : decode M.2.1 pc = .ok (.ifCond .lt off, 3)) (ht : (pc : Int) + off = (t : Int)) (hq : pc + 3 = q) (kt : x < 0 → am_V ox d M t lv st H o H') (kf : ¬ x < 0 → am_V ox d M q lv st H o H') : am_V ox d M pc lv (.int x :: st) H o H' := by
  subst hq
  intro l p e R s m args below meth c dC dI τ B0 ρ0 nx0 n0 z0 C ρ hp locs cells slots ls S
  exact lv_if_lt C.1 C.2.1 hd ht (fun h => kt h l p e R s m args below meth c dC dI τ B0 ρ0 nx0 n0 z0 C ρ hp locs cells slots ls S) (fun h => kf h l p e R s m args below meth c dC dI τ B0 ρ0 nx0 n0 z0 C ρ hp locs cells slots ls S)
theorem am_icmp_lt {x y : Int32} {off : Int} {t : Nat} (hd : decode M.2.1 pc = .ok (.if_icmp .lt off, 3)) (ht : (pc : Int) + off = (t : Int)) (hq : pc + 3 = q) (kt : x < y → am_V ox d M t lv st H o H') (kf : ¬ x < y → am_V ox d M q lv st H o H') : am_V ox d M pc lv (.int y :: .int x :: st) H o H' := by
  subst hq
  intro l p e R s m args below meth c dC dI τ B0 ρ0 nx0 n0 z0 C ρ hp locs cells slots ls S
  exact lv_icmp_lt C.1 C.2.1 hd ht (fun h => kt h l p e R s m args below meth c dC dI τ B0 ρ0 nx0 n0 z0 C ρ hp locs cells slots ls S) (fun h => kf h l p e R s m args below meth c dC dI τ B0 ρ0 nx0 n0 z0 C ρ hp locs cells slots ls S)
theorem am_if_ge {x : Int32} {off : Int} {t : Nat} (hd : decode M.2.1 pc = .ok (.ifCond .ge off, 3)) (ht : (pc : Int) + off = (t : Int)) (hq : pc + 3 = q) (kt : 0 ≤ x → am_V ox d M t lv st H o H') (kf : ¬ 0 ≤ x → am_V ox d M q lv st H o H') : am_V ox d M pc lv (.int x :: st) H o H' := by
  subst hq
  intro l p e R s m args below meth c dC dI τ B0 ρ0 nx0 n0 z0 C ρ hp locs cells slots ls S
  exact lv_if_ge C.1 C.2.1 hd ht (fun h => kt h l p e R s m args below meth c dC dI τ B0 ρ0 nx0 n0 z0 C ρ hp locs cells slots ls S) (fun h => kf h l p e R s m args below meth c dC dI τ B0 ρ0 nx0 n0 z0 C ρ hp locs cells slots ls S)
theorem am_icmp_ge {x y : Int32} {off : Int} {t : Nat} (hd : decode M.2.1 pc = .ok (.if_icmp .ge off, 3)) (ht : (pc : Int) + off = (t : Int)) (hq : pc + 3 = q) (kt : y ≤ x → am_V ox d M t lv st H o H') (kf : ¬ y ≤ x → am_V ox d M q lv st H o H') : am_V ox d M pc lv (.int y :: .int x :: st) H o H' := by
  subst hq
  intro l p e R s m args below meth c dC dI τ B0 ρ0 nx0 n0 z0 C ρ hp locs cells slots ls S
  exact lv_icmp_ge C.1 C.2.1 hd ht (fun h => kt h l p e R s m args below meth c dC dI τ B0 ρ0 nx0 n0 z0 C ρ hp locs cells slots ls S) (fun h => kf h l p e R s m args below meth c dC dI τ B0 ρ0 nx0 n0 z0 C ρ hp locs cells slots ls S)
theorem am_if_gt {x : Int32} {off : Int} {t : Nat} (hd : decode M.2.1 pc = .ok (.ifCond .gt off, 3)) (ht : (pc : Int) + off = (t : Int)) (hq : pc + 3 = q) (kt : 0 < x → am_V ox d M t lv st H o H') (kf : ¬ 0 < x → am_V ox d M q lv st H o H') : am_V ox d M pc lv (.int x :: st) H o H' := by
  subst hq
  intro l p e R s m args below meth c dC dI τ B0 ρ0 nx0 n0 z0 C ρ hp locs cells slots ls S
  exact lv_if_gt C.1 C.2.1 hd ht (fun h => kt h l p e R s m args below meth c dC dI τ B0 ρ0 nx0 n0 z0 C ρ hp locs cells slots ls S) (fun h => kf h l p e R s m args below meth c dC dI τ B0 ρ0 nx0 n0 z0 C ρ hp locs cells slots ls S)
theorem am_icmp_gt {x y : Int32} {off : Int} {t : Nat} (hd : decode M.2.1 pc = .ok (.if_icmp .gt off, 3)) (ht : (pc : Int) + off = (t : Int)) (hq : pc + 3 = q) (kt : y < x → am_V ox d M t lv st H o H') (kf : ¬ y < x → am_V ox d M q lv st H o H') : am_V ox d M pc lv (.int y :: .int x :: st) H o H' := by
  subst hq
  intro l p e R s m args below meth c dC dI τ B0 ρ0 nx0 n0 z0 C ρ hp locs cells slots ls S
  exact lv_icmp_gt C.1 C.2.1 hd ht (fun h => kt h l p e R s m args below meth c dC dI τ B0 ρ0 nx0 n0 z0 C ρ hp locs cells slots ls S) (fun h => kf h l p e R s m args below meth c dC dI τ B0 ρ0 nx0 n0 z0 C ρ hp locs cells slots ls S)
theorem am_if_le {x : Int32} {off : Int} {t : Nat} (hd : decode M.2.1 pc = .ok (.ifCond .le off, 3)) (ht : (pc : Int) + off = (t : Int)) (hq : pc + 3 = q) (kt : x ≤ 0 → am_V ox d M t lv st H o H') (kf : ¬ x ≤ 0 → am_V ox d M q lv st H o H') : am_V ox d M pc lv (.int x :: st) H o H' := by
  subst hq
  intro l p e R s m args below meth c dC dI τ B0 ρ0 nx0 n0 z0 C ρ hp locs cells slots ls S
  exact lv_if_le C.1 C.2.1 hd ht (fun h => kt h l p e R s m args below meth c dC dI τ B0 ρ0 nx0 n0 z0 C ρ hp locs cells slots ls S) (fun h => kf h l p e R s m args below meth c dC dI τ B0 ρ0 nx0 n0 z0 C ρ hp locs cells slots ls S)
theorem am_icmp_le {x y : Int32} {off : Int} {t : Nat} (hd : decode M.2.1 pc = .ok (.if_icmp .le off, 3)) (ht : (pc : Int) + off = (t : Int)) (hq : pc + 3 = q) (kt : x ≤ y → am_V ox d M t lv st H o H') (kf : ¬ x ≤ y → am_V ox d M q lv st H o H') : am_V ox d M pc lv (.int y :: .int x :: st) H o H' := by
  subst hq
  intro l p e R s m args below meth c dC dI τ B0 ρ0 nx0 n0 z0 C ρ hp locs cells slots ls S
  exact lv_icmp_le C.1 C.2.1 hd ht (fun h => kt h l p e R s m args below meth c dC dI τ B0 ρ0 nx0 n0 z0 C ρ hp locs cells slots ls S) (fun h => kf h l p e R s m args below meth c dC dI τ B0 ρ0 nx0 n0 z0 C ρ hp locs cells slots ls S)
theorem am_istore_n {i : Nat} {x : Int32} {w : Fin 4} {lv' : List (Nat × Value)} (hd : decode M.2.1 pc = .ok (.istore_n w, 1)) (hi : (w : Nat) = i) (hn : i < M.2.2.1) (hl : am_sv i (.int x) lv = lv') (hq : pc + 1 = q) (k : am_V ox d M q lv' st H o H') : am_V ox d M pc lv (.int x :: st) H o H' := by
  subst hq
  subst hl
  intro l p e R s m args below meth c dC dI τ B0 ρ0 nx0 n0 z0 C ρ hp locs cells slots ls S
  exact lv_istore_n C.1 C.2.1 hd hi S.2.2.2.2.2 hn (am_sv_cl (v := .int x)) (fun ls' hl' => k l p e R s m args below meth c dC dI τ B0 ρ0 nx0 n0 z0 C ρ hp locs cells slots ls' ⟨S.1, S.2.1, S.2.2.1, S.2.2.2.1, S.2.2.2.2.1, hl'⟩)
theorem am_istore {i : Nat} {x : Int32} {lv' : List (Nat × Value)} (hd : decode M.2.1 pc = .ok (.istore i, 2)) (hn : i < M.2.2.1) (hl : am_sv i (.int x) lv = lv') (hq : pc + 2 = q) (k : am_V ox d M q lv' st H o H') : am_V ox d M pc lv (.int x :: st) H o H' := by
  subst hq
  subst hl
  intro l p e R s m args below meth c dC dI τ B0 ρ0 nx0 n0 z0 C ρ hp locs cells slots ls S
  exact lv_istore C.1 C.2.1 hd S.2.2.2.2.2 hn (am_sv_cl (v := .int x)) (fun ls' hl' => k l p e R s m args below meth c dC dI τ B0 ρ0 nx0 n0 z0 C ρ hp locs cells slots ls' ⟨S.1, S.2.1, S.2.2.1, S.2.2.2.1, S.2.2.2.2.1, hl'⟩)
theorem am_astore_n {i : Nat} {x : Nat} {w : Fin 4} {lv' : List (Nat × Value)} (hd : decode M.2.1 pc = .ok (.astore_n w, 1)) (hi : (w : Nat) = i) (hn : i < M.2.2.1) (hl : am_sv i (.ref x) lv = lv') (hq : pc + 1 = q) (k : am_V ox d M q lv' st H o H') : am_V ox d M pc lv (.ref x :: st) H o H' := by
  subst hq
  subst hl
  intro l p e R s m args below meth c dC dI τ B0 ρ0 nx0 n0 z0 C ρ hp locs cells slots ls S
  exact lv_astore_n C.1 C.2.1 hd hi S.2.2.2.2.2 hn (am_sv_cl (v := .ref x)) (fun ls' hl' => k l p e R s m args below meth c dC dI τ B0 ρ0 nx0 n0 z0 C ρ hp locs cells slots ls' ⟨S.1, S.2.1, S.2.2.1, S.2.2.2.1, S.2.2.2.2.1, hl'⟩)
theorem am_astore {i : Nat} {x : Nat} {lv' : List (Nat × Value)} (hd : decode M.2.1 pc = .ok (.astore i, 2)) (hn : i < M.2.2.1) (hl : am_sv i (.ref x) lv = lv') (hq : pc + 2 = q) (k : am_V ox d M q lv' st H o H') : am_V ox d M pc lv (.ref x :: st) H o H' := by
  subst hq
  subst hl
  intro l p e R s m args below meth c dC dI τ B0 ρ0 nx0 n0 z0 C ρ hp locs cells slots ls S
  exact lv_astore C.1 C.2.1 hd S.2.2.2.2.2 hn (am_sv_cl (v := .ref x)) (fun ls' hl' => k l p e R s m args below meth c dC dI τ B0 ρ0 nx0 n0 z0 C ρ hp locs cells slots ls' ⟨S.1, S.2.1, S.2.2.1, S.2.2.2.1, S.2.2.2.2.1, hl'⟩)
theorem am_iinc {i : Nat} {n : Int} {x v : Int32} {lv' : List (Nat × Value)} (hd : decode M.2.1 pc = .ok (.iinc i n, 3)) (hx : am_lk i lv = some (.int x)) (hv : x + Int32.ofInt n = v) (hn : i < M.2.2.1) (hl : am_sv i (.int v) lv = lv') (hq : pc + 3 = q) (k : am_V ox d M q lv' st H o H') : am_V ox d M pc lv st H o H' := by
  subst hq
  subst hl
  intro l p e R s m args below meth c dC dI τ B0 ρ0 nx0 n0 z0 C ρ hp locs cells slots ls S
  obtain ⟨w, hw⟩ := List.getElem?_of_mem (List.mem_map.mpr ⟨(i, Value.int x), am_lk_mem hx, rfl⟩ : (i, am_cv ρ (.int x)) ∈ am_cl ρ lv)
  exact lv_iinc C.1 C.2.1 hd S.2.2.2.2.2 hw hv hn (am_sv_cl (v := .int v)) (fun ls' hl' => k l p e R s m args below meth c dC dI τ B0 ρ0 nx0 n0 z0 C ρ hp locs cells slots ls' ⟨S.1, S.2.1, S.2.2.1, S.2.2.2.1, S.2.2.2.2.1, hl'⟩)
theorem am_tableIn {dflt lo hi : Int} {offs : Array Int} {len : Nat} {x : Int32} {off : Int} (hd : decode M.2.1 pc = .ok (.tableswitch dflt lo hi offs, len)) (h1 : ¬ x.toInt < lo) (h2 : ¬ hi < x.toInt) (ho : offs[(x.toInt - lo).toNat]? = some off) (ht : (pc : Int) + off = (q : Int)) (k : am_V ox d M q lv st H o H') : am_V ox d M pc lv (.int x :: st) H o H' := by
  intro l p e R s m args below meth c dC dI τ B0 ρ0 nx0 n0 z0 C ρ hp locs cells slots ls S
  exact lv_tableIn C.1 C.2.1 hd h1 h2 ho ht (k l p e R s m args below meth c dC dI τ B0 ρ0 nx0 n0 z0 C ρ hp locs cells slots ls S)
theorem am_tableOut {dflt lo hi : Int} {offs : Array Int} {len : Nat} {x : Int32} (hd : decode M.2.1 pc = .ok (.tableswitch dflt lo hi offs, len)) (h : x.toInt < lo ∨ hi < x.toInt) (ht : (pc : Int) + dflt = (q : Int)) (k : am_V ox d M q lv st H o H') : am_V ox d M pc lv (.int x :: st) H o H' := by
  intro l p e R s m args below meth c dC dI τ B0 ρ0 nx0 n0 z0 C ρ hp locs cells slots ls S
  exact lv_tableOut C.1 C.2.1 hd h ht (k l p e R s m args below meth c dC dI τ B0 ρ0 nx0 n0 z0 C ρ hp locs cells slots ls S)
theorem am_lookup {dflt : Int} {ps : Array (Int × Int)} {len : Nat} {x : Int32} {off : Int} (hd : decode M.2.1 pc = .ok (.lookupswitch dflt ps, len)) (hsr : (ps.toList.zip (ps.toList.drop 1)).all (fun (a, next) => a.1 < next.1) = true) (ho : Op.lookupswitch.offset ps.toList dflt x.toInt = off) (ht : (pc : Int) + off = (q : Int)) (k : am_V ox d M q lv st H o H') : am_V ox d M pc lv (.int x :: st) H o H' := by
  intro l p e R s m args below meth c dC dI τ B0 ρ0 nx0 n0 z0 C ρ hp locs cells slots ls S
  exact lv_lookup C.1 C.2.1 hd hsr ho ht (k l p e R s m args below meth c dC dI τ B0 ρ0 nx0 n0 z0 C ρ hp locs cells slots ls S)
end AMR
end
section
/-! THE ABSTRACT MACHINE, part 4: fields, arrays, new cells. -/
/-- a class of vwCl: its name, fields, types -/
def am_Kl (ci : Nat) (C : String) (T : u_T) (N : Nat) (ty : Nat → FieldType) : Prop :=
  vwCl[ci]? = some (C, T, N) ∧ am_Nf ci = N ∧ ci < 100 ∧ (∀ w ∈ u_ws C T N, w ∈ am_words) ∧ (∀ k, k < N → parseFieldDescriptor (T k).2.2.1 = some (ty k)) ∧ (∀ a, a < N → ∀ b, b < N → a ≠ b → (T a).2.1 ≠ (T b).2.1) ∧ (∀ k, k < N → defaultValue (ty k) = if am_isr ci k = true then .null else .int 0)
/-- the field that (own, idx) names is slot k of class ci -/
def am_Fl (own : String) (idx ci k : Nat) (ty : FieldType) (fin : Bool) : Prop := ∃ (C : String) (T : u_T) (N : Nat) (tys : Nat → FieldType), am_Kl ci C T N tys ∧ k < N ∧ tys k = ty ∧ (T k).2.2.2 = fin ∧ Cond.fieldLink own idx (T k).1 (T k).2.1 (T k).2.2.1 ∈ am_words
def am_Cn (own : String) (idx ci : Nat) : Prop := ∃ (C : String) (T : u_T) (N : Nat) (tys : Nat → FieldType), am_Kl ci C T N tys ∧ Cond.classLink own idx C ∈ am_words ∧ Cond.instantiable C N ∈ am_words ∧ Cond.initialized C ∈ am_words
theorem am_ra_eq {U : State} {c1 c2 : ClassId} {ty : FieldType} (h1 : va_RA U c1 ty) (h2 : va_RA U c2 ty) : c1 = c2 := by
  cases ty with
  | object C =>
    obtain ⟨_, _, _, _, _, e1⟩ := h1
    obtain ⟨_, _, _, _, _, e2⟩ := h2
    exact Option.some.inj (e1.symm.trans e2)
  | _ => exact Option.some.inj (Eq.trans (Eq.symm h1) h2)
section AMH
variable {ox : List (Nat × (Nat → Int32))} {d : Nat} {M : am_M} {pc q : Nat} {lv : List (Nat × Value)} {st : List Value} {H H' : am_H} {o : Option Value ⊕ String}
theorem am_getI {idx a ci k : Nat} {ty : FieldType} {fin : Bool} (hd : decode M.2.1 pc = .ok (.getfield idx, 3)) (hf : am_Fl M.1 idx ci k ty fin) (hr : am_isr ci k = false) (hs : am_sh H a = (ci, am_Nf ci)) (ha : a < am_nx H) (hq : pc + 3 = q) (kk : am_V ox d M q lv (.int (am_gi H a k) :: st) H o H') : am_V ox d M pc lv (.ref a :: st) H o H' := by
  subst hq
  intro l p e R s m args below meth c dC dI τ B0 ρ0 nx0 n0 z0 C ρ hp locs cells slots ls S
  obtain ⟨Cn, T, N, tys, ⟨hc, hN, h100, hin, -⟩, hk, -, -, hlk⟩ := hf
  have hcell := am_ws_at (τ := τ) (ρ := ρ) ha
  rw [am_cell_o hs h100] at hcell
  refine va_get (D := (dC, dI)) (ci := ci) (v := .int (am_gi H a k)) (C := Cn) (T := T) (N := N) C.1 C.2.1 C.2.2.2.2.2.1 hin C.2.2.2.2.1 C.2.2.2.2.2.2.2.1 S.2.1.1 a hcell hc k hk (C.2.2.2.2.2.1 _ hlk) (fun _ h => h) ?_ hd (kk l p e R s m args below meth c dC dI τ B0 ρ0 nx0 n0 z0 C ρ hp locs cells slots ls S)
  rw [am_fs_at (by rw [hN]; exact hk), hr]; rfl
theorem am_getR {idx a ci k b : Nat} {ty : FieldType} {fin : Bool} (hd : decode M.2.1 pc = .ok (.getfield idx, 3)) (hf : am_Fl M.1 idx ci k ty fin) (hr : am_isr ci k = true) (hs : am_sh H a = (ci, am_Nf ci)) (ha : a < am_nx H) (hb : am_gr H a k = some b) (hq : pc + 3 = q) (kk : am_V ox d M q lv (.ref b :: st) H o H') : am_V ox d M pc lv (.ref a :: st) H o H' := by
  subst hq
  intro l p e R s m args below meth c dC dI τ B0 ρ0 nx0 n0 z0 C ρ hp locs cells slots ls S
  obtain ⟨Cn, T, N, tys, ⟨hc, hN, h100, hin, -⟩, hk, -, -, hlk⟩ := hf
  have hcell := am_ws_at (τ := τ) (ρ := ρ) ha
  rw [am_cell_o hs h100] at hcell
  refine va_get (D := (dC, dI)) (ci := ci) (v := .ref (ρ b)) (C := Cn) (T := T) (N := N) C.1 C.2.1 C.2.2.2.2.2.1 hin C.2.2.2.2.1 C.2.2.2.2.2.2.2.1 S.2.1.1 a hcell hc k hk (C.2.2.2.2.2.1 _ hlk) (fun _ h => h) ?_ hd (kk l p e R s m args below meth c dC dI τ B0 ρ0 nx0 n0 z0 C ρ hp locs cells slots ls S)
  rw [am_fs_at (by rw [hN]; exact hk), hr, hb]; rfl
theorem am_putI {idx a ci k : Nat} {ty : FieldType} {v : Int32} (hd : decode M.2.1 pc = .ok (.putfield idx, 3)) (hf : am_Fl M.1 idx ci k ty false) (hr : am_isr ci k = false) (hn : narrow ty (.int v) = .int v) (hfit : fits ty (.int v) = true) (hs : am_sh H a = (ci, am_Nf ci)) (ha : a < am_nx H) (hq : pc + 3 = q) (kk : am_V ox d M q lv st (am_si H a k v) o H') : am_V ox d M pc lv (.int v :: .ref a :: st) H o H' := by
  subst hq
  intro l p e R s m args below meth c dC dI τ B0 ρ0 nx0 n0 z0 C ρ hp locs cells slots ls S
  obtain ⟨Cn, T, N, tys, ⟨hc, hN, h100, hin, hty, hnm, -⟩, hk, rfl, hfin, hlk⟩ := hf
  have hcell := am_ws_at (τ := τ) (ρ := ρ) ha
  rw [am_cell_o hs h100] at hcell
  refine va_put (D := (dC, dI)) (ci := ci) (v := .int v) (ty := tys k) (C := Cn) (T := T) (N := N) C.1 C.2.1 C.2.2.2.2.2.1 hin tys hty hnm C.2.2.2.2.1 C.2.2.2.2.2.2.2.1 S.2.1.1 S.2.1.2.1 S.2.2.1 a hcell hc k hk (C.2.2.2.2.2.1 _ hlk) (fun _ h => h) hfin (hty k hk) hn hfit (by rw [am_fs_len, hN]; exact hk) hd (fun H1 locs1 hP1 hD1 hS1 => ?_)
  rw [am_fs_si hr, am_ws_set (H := H) (H2 := am_si H a k v) rfl (am_cell_o hs h100) (fun b hb => am_cell_si hb)] at hP1 hD1
  exact kk l p e R s m args below meth c dC dI τ B0 ρ0 nx0 n0 z0 C ρ H1 locs1 cells slots ls ⟨S.1, ⟨hP1, hD1, S.2.1.2.2.1, S.2.1.2.2.2.1, Nat.le_trans C.2.2.2.2.2.2.2.2.2.1 hS1.1⟩, hS1, S.2.2.2⟩
theorem am_putR {idx a ci k b : Nat} {ty : FieldType} (hd : decode M.2.1 pc = .ok (.putfield idx, 3)) (hf : am_Fl M.1 idx ci k ty false) (hr : am_isr ci k = true) (hn : ∀ x, narrow ty (.ref x) = .ref x) (hfit : ∀ x, fits ty (.ref x) = true) (hs : am_sh H a = (ci, am_Nf ci)) (ha : a < am_nx H) (hb : b < am_nx H) (hq : pc + 3 = q) (kk : am_V ox d M q lv st (am_sr H a k (some b)) o H') : am_V ox d M pc lv (.ref b :: .ref a :: st) H o H' := by
  subst hq
  intro l p e R s m args below meth c dC dI τ B0 ρ0 nx0 n0 z0 C ρ hp locs cells slots ls S
  obtain ⟨Cn, T, N, tys, ⟨hc, hN, h100, hin, hty, hnm, -⟩, hk, rfl, hfin, hlk⟩ := hf
  have hcell := am_ws_at (τ := τ) (ρ := ρ) ha
  rw [am_cell_o hs h100] at hcell
  refine va_put (D := (dC, dI)) (ci := ci) (v := .ref (ρ b)) (ty := tys k) (C := Cn) (T := T) (N := N) C.1 C.2.1 C.2.2.2.2.2.1 hin tys hty hnm C.2.2.2.2.1 C.2.2.2.2.2.2.2.1 S.2.1.1 S.2.1.2.1 S.2.2.1 a hcell hc k hk (C.2.2.2.2.2.1 _ hlk) (fun _ h => h) hfin (hty k hk) (hn _) (hfit _) (by rw [am_fs_len, hN]; exact hk) hd (fun H1 locs1 hP1 hD1 hS1 => ?_)
  rw [show Value.ref (ρ b) = va_rf ((some b).map ρ) from rfl, am_fs_sr hr, am_ws_set (H := H) (H2 := am_sr H a k (some b)) rfl (am_cell_o hs h100) (fun x hx => am_cell_sr hx)] at hP1 hD1
  refine kk l p e R s m args below meth c dC dI τ B0 ρ0 nx0 n0 z0 C ρ H1 locs1 cells slots ls ⟨S.1, ⟨hP1, hD1, fun x i y hxy => ?_, S.2.1.2.2.2.1, Nat.le_trans C.2.2.2.2.2.2.2.2.2.1 hS1.1⟩, hS1, S.2.2.2⟩
  by_cases hx : x = a ∧ i = k
  · obtain ⟨rfl, rfl⟩ := hx
    have e1 : am_gr (am_sr H x i (some b)) x i = some b := am_u2_self _ _ _ _
    cases e1.symm.trans hxy
    exact hb
  · have e1 : am_gr (am_sr H a k (some b)) x i = am_gr H x i := am_u2_ne _ _ hx
    exact S.2.1.2.2.1 x i y (e1.symm.trans hxy)
/-- a final field, in the constructor -/
theorem am_putF {idx a ci k b : Nat} {ty : FieldType} (hd : decode M.2.1 pc = .ok (.putfield idx, 3)) (hf : am_Fl M.1 idx ci k ty true) (hr : am_isr ci k = true) (hi : M.2.2.2.2.1 = "<init>") (ho : ∀ r : vw_C, vwCl[ci]? = some r → (r.2.1 k).1 = M.1) (hn : ∀ x, narrow ty (.ref x) = .ref x) (hfit : ∀ x, fits ty (.ref x) = true) (hs : am_sh H a = (ci, am_Nf ci)) (ha : a < am_nx H) (hb : b < am_nx H) (hq : pc + 3 = q) (kk : am_V ox d M q lv st (am_sr H a k (some b)) o H') : am_V ox d M pc lv (.ref b :: .ref a :: st) H o H' := by
  subst hq
  intro l p e R s m args below meth c dC dI τ B0 ρ0 nx0 n0 z0 C ρ hp locs cells slots ls S
  obtain ⟨Cn, T, N, tys, ⟨hc, hN, h100, hin, hty, hnm, -⟩, hk, rfl, hfin, hlk⟩ := hf
  have hdecl := ho _ hc
  have hcell := am_ws_at (τ := τ) (ρ := ρ) ha
  rw [am_cell_o hs h100] at hcell
  refine va_putF (D := (dC, dI)) (ci := ci) (v := .ref (ρ b)) (ty := tys k) (C := Cn) (T := T) (N := N) C.1 C.2.1 C.2.2.2.2.2.1 hin tys hty hnm C.2.2.2.2.1 C.2.2.2.2.2.2.2.1 S.2.1.1 S.2.1.2.1 S.2.2.1 a hcell hc k hk (C.2.2.2.2.2.1 _ hlk) (fun _ h => h) hfin ((C.2.2.2.2.2.2.2.2.2.2.2.2.2.2.1 (by rw [hi]; decide)).trans hi) hdecl (hty k hk) (hn _) (hfit _) (by rw [am_fs_len, hN]; exact hk) hd (fun H1 locs1 hP1 hD1 hS1 => ?_)
  rw [show Value.ref (ρ b) = va_rf ((some b).map ρ) from rfl, am_fs_sr hr, am_ws_set (H := H) (H2 := am_sr H a k (some b)) rfl (am_cell_o hs h100) (fun x hx => am_cell_sr hx)] at hP1 hD1
  refine kk l p e R s m args below meth c dC dI τ B0 ρ0 nx0 n0 z0 C ρ H1 locs1 cells slots ls ⟨S.1, ⟨hP1, hD1, fun x i y hxy => ?_, S.2.1.2.2.2.1, Nat.le_trans C.2.2.2.2.2.2.2.2.2.1 hS1.1⟩, hS1, S.2.2.2⟩
  by_cases hx : x = a ∧ i = k
  · obtain ⟨rfl, rfl⟩ := hx
    have e1 : am_gr (am_sr H x i (some b)) x i = some b := am_u2_self _ _ _ _
    cases e1.symm.trans hxy
    exact hb
  · have e1 : am_gr (am_sr H a k (some b)) x i = am_gr H x i := am_u2_ne _ _ hx
    exact S.2.1.2.2.1 x i y (e1.symm.trans hxy)
theorem am_putFI {idx a ci k : Nat} {ty : FieldType} {v : Int32} (hd : decode M.2.1 pc = .ok (.putfield idx, 3)) (hf : am_Fl M.1 idx ci k ty true) (hr : am_isr ci k = false) (hi : M.2.2.2.2.1 = "<init>") (ho : ∀ r : vw_C, vwCl[ci]? = some r → (r.2.1 k).1 = M.1) (hn : narrow ty (.int v) = .int v) (hfit : fits ty (.int v) = true) (hs : am_sh H a = (ci, am_Nf ci)) (ha : a < am_nx H) (hq : pc + 3 = q) (kk : am_V ox d M q lv st (am_si H a k v) o H') : am_V ox d M pc lv (.int v :: .ref a :: st) H o H' := by
  subst hq
  intro l p e R s m args below meth c dC dI τ B0 ρ0 nx0 n0 z0 C ρ hp locs cells slots ls S
  obtain ⟨Cn, T, N, tys, ⟨hc, hN, h100, hin, hty, hnm, -⟩, hk, rfl, hfin, hlk⟩ := hf
  have hdecl := ho _ hc
  have hcell := am_ws_at (τ := τ) (ρ := ρ) ha
  rw [am_cell_o hs h100] at hcell
  refine va_putF (D := (dC, dI)) (ci := ci) (v := .int v) (ty := tys k) (C := Cn) (T := T) (N := N) C.1 C.2.1 C.2.2.2.2.2.1 hin tys hty hnm C.2.2.2.2.1 C.2.2.2.2.2.2.2.1 S.2.1.1 S.2.1.2.1 S.2.2.1 a hcell hc k hk (C.2.2.2.2.2.1 _ hlk) (fun _ h => h) hfin ((C.2.2.2.2.2.2.2.2.2.2.2.2.2.2.1 (by rw [hi]; decide)).trans hi) hdecl (hty k hk) hn hfit (by rw [am_fs_len, hN]; exact hk) hd (fun H1 locs1 hP1 hD1 hS1 => ?_)
  rw [am_fs_si hr, am_ws_set (H := H) (H2 := am_si H a k v) rfl (am_cell_o hs h100) (fun b hb => am_cell_si hb)] at hP1 hD1
  exact kk l p e R s m args below meth c dC dI τ B0 ρ0 nx0 n0 z0 C ρ H1 locs1 cells slots ls ⟨S.1, ⟨hP1, hD1, S.2.1.2.2.1, S.2.1.2.2.2.1, Nat.le_trans C.2.2.2.2.2.2.2.2.2.1 hS1.1⟩, hS1, S.2.2.2⟩
-- arrays
theorem am_iald {a n : Nat} {i : Int32} (hd : decode M.2.1 pc = .ok (.iaload, 1)) (hs : am_sh H a = (100, n)) (ha : a < am_nx H) (hin : vp_in i n) (hq : pc + 1 = q) (kk : am_V ox d M q lv (.int (am_gi H a i.toNatClampNeg) :: st) H o H') : am_V ox d M pc lv (.int i :: .ref a :: st) H o H' := by
  subst hq
  intro l p e R s m args below meth c dC dI τ B0 ρ0 nx0 n0 z0 C ρ hp locs cells slots ls S
  have hcell := am_ws_at (τ := τ) (ρ := ρ) ha
  rw [am_cell_i hs] at hcell
  exact va_iald (D := (dC, dI)) C.1 C.2.1 C.2.2.2.2.2.2.2.1 S.2.1.1 a 0 hcell (am_tys_at rfl) hin hd (kk l p e R s m args below meth c dC dI τ B0 ρ0 nx0 n0 z0 C ρ hp locs cells slots ls S)
theorem am_zald {a n : Nat} {i : Int32} (hd : decode M.2.1 pc = .ok (.baload, 1)) (hs : am_sh H a = (101, n)) (ha : a < am_nx H) (hin : vp_in i n) (hq : pc + 1 = q) (kk : am_V ox d M q lv (.int (am_gi H a i.toNatClampNeg) :: st) H o H') : am_V ox d M pc lv (.int i :: .ref a :: st) H o H' := by
  subst hq
  intro l p e R s m args below meth c dC dI τ B0 ρ0 nx0 n0 z0 C ρ hp locs cells slots ls S
  have hcell := am_ws_at (τ := τ) (ρ := ρ) ha
  rw [am_cell_z hs] at hcell
  exact va_zald (D := (dC, dI)) C.1 C.2.1 C.2.2.2.2.2.2.2.1 S.2.1.1 a 1 hcell (am_tys_at rfl) hin hd (kk l p e R s m args below meth c dC dI τ B0 ρ0 nx0 n0 z0 C ρ hp locs cells slots ls S)
theorem am_lald {a n : Nat} {i : Int32} (hd : decode M.2.1 pc = .ok (.laload, 1)) (hs : am_sh H a = (102, n)) (ha : a < am_nx H) (hin : vp_in i n) (hq : pc + 1 = q) (kk : am_V ox d M q lv (.long (am_gl H a i.toNatClampNeg) :: st) H o H') : am_V ox d M pc lv (.int i :: .ref a :: st) H o H' := by
  subst hq
  intro l p e R s m args below meth c dC dI τ B0 ρ0 nx0 n0 z0 C ρ hp locs cells slots ls S
  have hcell := am_ws_at (τ := τ) (ρ := ρ) ha
  rw [am_cell_l hs] at hcell
  exact va_lald (D := (dC, dI)) C.1 C.2.1 C.2.2.2.2.2.2.2.1 S.2.1.1 a 2 hcell (am_tys_at rfl) hin hd (kk l p e R s m args below meth c dC dI τ B0 ρ0 nx0 n0 z0 C ρ hp locs cells slots ls S)
theorem am_aald {a n k t b : Nat} {Cn : String} {i : Int32} (hd : decode M.2.1 pc = .ok (.aaload, 1)) (hs : am_sh H a = (103 + k, n)) (ht : am_kinds[t]? = some (103 + k, .object Cn)) (ha : a < am_nx H) (hin : vp_in i n) (hb : am_gr H a i.toNatClampNeg = some b) (hq : pc + 1 = q) (kk : am_V ox d M q lv (.ref b :: st) H o H') : am_V ox d M pc lv (.int i :: .ref a :: st) H o H' := by
  subst hq
  intro l p e R s m args below meth c dC dI τ B0 ρ0 nx0 n0 z0 C ρ hp locs cells slots ls S
  have hcell := am_ws_at (τ := τ) (ρ := ρ) ha
  rw [am_cell_q hs] at hcell
  refine va_aldq (D := (dC, dI)) C.1 C.2.1 C.2.2.2.2.2.2.2.1 S.2.1.1 a t hcell (am_tys_at ht) hin hd ?_
  rw [hb]
  exact kk l p e R s m args below meth c dC dI τ B0 ρ0 nx0 n0 z0 C ρ hp locs cells slots ls S
theorem am_iast {a n : Nat} {i x : Int32} (hd : decode M.2.1 pc = .ok (.iastore, 1)) (hs : am_sh H a = (100, n)) (ha : a < am_nx H) (hin : vp_in i n) (hq : pc + 1 = q) (kk : am_V ox d M q lv st (am_si H a i.toNatClampNeg x) o H') : am_V ox d M pc lv (.int x :: .int i :: .ref a :: st) H o H' := by
  subst hq
  intro l p e R s m args below meth c dC dI τ B0 ρ0 nx0 n0 z0 C ρ hp locs cells slots ls S
  have hcell := am_ws_at (τ := τ) (ρ := ρ) ha
  rw [am_cell_i hs] at hcell
  refine va_iast (D := (dC, dI)) C.1 C.2.1 C.2.2.2.2.2.2.2.1 S.2.1.1 S.2.1.2.1 S.2.2.1 a 0 hcell (am_tys_at rfl) hin hd (fun H1 locs1 hP1 hD1 hS1 => ?_)
  have e1 : am_cell τ ρ (am_si H a i.toNatClampNeg x) a = .inl (τ 100, n, .inl (upd (am_gi H a) i.toNatClampNeg x)) := by
    rw [am_cell_i (H := (am_si H a i.toNatClampNeg x)) hs]
    congr 4
    funext y
    show am_u2 (am_gi H) a i.toNatClampNeg x a y = upd (am_gi H a) i.toNatClampNeg x y
    simp [am_u2, upd]
  rw [am_ws_set (H := H) (H2 := am_si H a i.toNatClampNeg x) rfl e1 (fun b hb => am_cell_si hb)] at hP1 hD1
  exact kk l p e R s m args below meth c dC dI τ B0 ρ0 nx0 n0 z0 C ρ H1 locs1 cells slots ls ⟨S.1, ⟨hP1, hD1, S.2.1.2.2.1, S.2.1.2.2.2.1, Nat.le_trans C.2.2.2.2.2.2.2.2.2.1 hS1.1⟩, hS1, S.2.2.2⟩
theorem am_zast {a n : Nat} {i x : Int32} (hd : decode M.2.1 pc = .ok (.bastore, 1)) (hs : am_sh H a = (101, n)) (ha : a < am_nx H) (hin : vp_in i n) (hx : vp_nar .boolean x = x) (hq : pc + 1 = q) (kk : am_V ox d M q lv st (am_si H a i.toNatClampNeg x) o H') : am_V ox d M pc lv (.int x :: .int i :: .ref a :: st) H o H' := by
  subst hq
  intro l p e R s m args below meth c dC dI τ B0 ρ0 nx0 n0 z0 C ρ hp locs cells slots ls S
  have hcell := am_ws_at (τ := τ) (ρ := ρ) ha
  rw [am_cell_z hs] at hcell
  refine va_zast (D := (dC, dI)) C.1 C.2.1 C.2.2.2.2.2.2.2.1 S.2.1.1 S.2.1.2.1 S.2.2.1 a 1 hcell (am_tys_at rfl) hin hd (fun H1 locs1 hP1 hD1 hS1 => ?_)
  have e1 : am_cell τ ρ (am_si H a i.toNatClampNeg x) a = .inl (τ 101, n, .inl (upd (am_gi H a) i.toNatClampNeg (vp_nar .boolean x))) := by
    rw [am_cell_z (H := (am_si H a i.toNatClampNeg x)) hs, hx]
    congr 4
    funext y
    show am_u2 (am_gi H) a i.toNatClampNeg x a y = upd (am_gi H a) i.toNatClampNeg x y
    simp [am_u2, upd]
  rw [am_ws_set (H := H) (H2 := am_si H a i.toNatClampNeg x) rfl e1 (fun b hb => am_cell_si hb)] at hP1 hD1
  exact kk l p e R s m args below meth c dC dI τ B0 ρ0 nx0 n0 z0 C ρ H1 locs1 cells slots ls ⟨S.1, ⟨hP1, hD1, S.2.1.2.2.1, S.2.1.2.2.2.1, Nat.le_trans C.2.2.2.2.2.2.2.2.2.1 hS1.1⟩, hS1, S.2.2.2⟩
theorem am_last {a n : Nat} {i : Int32} {x : Int64} (hd : decode M.2.1 pc = .ok (.lastore, 1)) (hs : am_sh H a = (102, n)) (ha : a < am_nx H) (hin : vp_in i n) (hq : pc + 1 = q) (kk : am_V ox d M q lv st (am_sl H a i.toNatClampNeg x) o H') : am_V ox d M pc lv (.long x :: .int i :: .ref a :: st) H o H' := by
  subst hq
  intro l p e R s m args below meth c dC dI τ B0 ρ0 nx0 n0 z0 C ρ hp locs cells slots ls S
  have hcell := am_ws_at (τ := τ) (ρ := ρ) ha
  rw [am_cell_l hs] at hcell
  refine va_last (D := (dC, dI)) C.1 C.2.1 C.2.2.2.2.2.2.2.1 S.2.1.1 S.2.1.2.1 S.2.2.1 a 2 hcell (am_tys_at rfl) hin hd (fun H1 locs1 hP1 hD1 hS1 => ?_)
  have e1 : am_cell τ ρ (am_sl H a i.toNatClampNeg x) a = .inl (τ 102, n, .inr (.inl (vp_updL (am_gl H a) i.toNatClampNeg x))) := by
    rw [am_cell_l (H := (am_sl H a i.toNatClampNeg x)) hs]
    congr 5
    funext y
    show am_u2 (am_gl H) a i.toNatClampNeg x a y = vp_updL (am_gl H a) i.toNatClampNeg x y
    simp [am_u2, vp_updL]
  rw [am_ws_set (H := H) (H2 := am_sl H a i.toNatClampNeg x) rfl e1 (fun b hb => am_cell_sl hb)] at hP1 hD1
  exact kk l p e R s m args below meth c dC dI τ B0 ρ0 nx0 n0 z0 C ρ H1 locs1 cells slots ls ⟨S.1, ⟨hP1, hD1, S.2.1.2.2.1, S.2.1.2.2.2.1, Nat.le_trans C.2.2.2.2.2.2.2.2.2.1 hS1.1⟩, hS1, S.2.2.2⟩
theorem am_aast {a n k t b N : Nat} {r : vw_C} {i : Int32} (hd : decode M.2.1 pc = .ok (.aastore, 1)) (hs : am_sh H a = (103 + k, n)) (hr : vwCl[k]? = some r) (h100 : k < 100) (ht : am_kinds[t]? = some (103 + k, .object r.1)) (ha : a < am_nx H) (hsb : am_sh H b = (k, N)) (hb : b < am_nx H) (hin : vp_in i n) (hq : pc + 1 = q) (kk : am_V ox d M q lv st (am_sr H a i.toNatClampNeg (some b)) o H') : am_V ox d M pc lv (.ref b :: .int i :: .ref a :: st) H o H' := by
  subst hq
  intro l p e R s m args below meth c dC dI τ B0 ρ0 nx0 n0 z0 C ρ hp locs cells slots ls S
  have hcell := am_ws_at (τ := τ) (ρ := ρ) ha
  rw [am_cell_q hs] at hcell
  have hcb := am_ws_at (τ := τ) (ρ := ρ) hb
  rw [am_cell_o hsb h100] at hcb
  refine va_astq (D := (dC, dI)) C.1 C.2.1 C.2.2.2.2.2.2.2.1 S.2.1.1 S.2.1.2.1 S.2.2.1 a t b k hcell (am_tys_at ht) hcb hr hin hd (fun H1 locs1 hP1 hD1 hS1 => ?_)
  have e1 : am_cell τ ρ (am_sr H a i.toNatClampNeg (some b)) a = .inl (τ (103 + k), n, .inr (.inr (.inr (.inr (va_up (fun i => (am_gr H a i).map ρ) i.toNatClampNeg (some (ρ b))))))) := by
    rw [am_cell_q (H := (am_sr H a i.toNatClampNeg (some b))) hs]
    congr 8
    funext y
    show (am_u2 (am_gr H) a i.toNatClampNeg (some b) a y).map ρ = va_up (fun i => (am_gr H a i).map ρ) i.toNatClampNeg (some (ρ b)) y
    by_cases hy : y = i.toNatClampNeg
    · simp [am_u2, va_up, hy]
    · simp [am_u2, va_up, hy]
  rw [am_ws_set (H := H) (H2 := am_sr H a i.toNatClampNeg (some b)) rfl e1 (fun x hx => am_cell_sr hx)] at hP1 hD1
  refine kk l p e R s m args below meth c dC dI τ B0 ρ0 nx0 n0 z0 C ρ H1 locs1 cells slots ls ⟨S.1, ⟨hP1, hD1, fun x j y hxy => ?_, S.2.1.2.2.2.1, Nat.le_trans C.2.2.2.2.2.2.2.2.2.1 hS1.1⟩, hS1, S.2.2.2⟩
  by_cases hx : x = a ∧ j = i.toNatClampNeg
  · obtain ⟨rfl, rfl⟩ := hx
    have e1 : am_gr (am_sr H x i.toNatClampNeg (some b)) x i.toNatClampNeg = some b := am_u2_self _ _ _ _
    cases e1.symm.trans hxy
    exact hb
  · have e1 : am_gr (am_sr H a i.toNatClampNeg (some b)) x j = am_gr H x j := am_u2_ne _ _ hx
    exact S.2.1.2.2.1 x j y (e1.symm.trans hxy)
theorem am_alen {a k n t : Nat} {ty : FieldType} {v : Int32} (hd : decode M.2.1 pc = .ok (.arraylength, 1)) (hs : am_sh H a = (k, n)) (hk : 100 ≤ k) (ht : am_kinds[t]? = some (k, ty)) (ha : a < am_nx H) (hv : Int32.ofNat n = v) (hq : pc + 1 = q) (kk : am_V ox d M q lv (.int v :: st) H o H') : am_V ox d M pc lv (.ref a :: st) H o H' := by
  subst hq
  intro l p e R s m args below meth c dC dI τ B0 ρ0 nx0 n0 z0 C ρ hp locs cells slots ls S
  have hcell := am_ws_at (τ := τ) (ρ := ρ) ha
  obtain ⟨z, hz⟩ : ∃ z, am_cell τ ρ H a = .inl (τ k, n, z) := by
    unfold am_cell
    rw [hs, if_neg (by omega)]
    by_cases h1 : k < 102
    · rw [if_pos h1]; exact ⟨_, rfl⟩
    · rw [if_neg h1]
      by_cases h2 : k < 103
      · rw [if_pos h2]; exact ⟨_, rfl⟩
      · rw [if_neg h2]; exact ⟨_, rfl⟩
  rw [hz] at hcell
  exact va_alen (D := (dC, dI)) C.1 C.2.1 C.2.2.2.2.2.2.2.1 S.2.1.1 a t hcell (am_tys_at ht) hv hd (kk l p e R s m args below meth c dC dI τ B0 ρ0 nx0 n0 z0 C ρ hp locs cells slots ls S)
end AMH
end
section
/-! THE ABSTRACT MACHINE, part 5: new cells, ends, calls. -/
section AMN
variable {ox : List (Nat × (Nat → Int32))} {d : Nat} {M : am_M} {pc q : Nat} {lv : List (Nat × Value)} {st : List Value} {H H' : am_H} {o : Option Value ⊕ String}
theorem am_grown {nL : Nat} {s : State} {dC : Nat → ClassId} {dI : Nat → Nat → Nat} {τ : Nat → ClassId} {B0 : Nat} {ρ0 : Nat → Nat} {nx0 n0 z0 : Nat} {ρ : Nat → Nat} {hp : Heap} {locs : List Loc} {cells slots : Nat} {ls : Array Slot} (S : am_St nL lv H s dC dI τ B0 ρ0 nx0 n0 z0 ρ hp locs cells slots ls) (hB : B0 ≤ s.heap.size) (hlv : ∀ x ∈ lv, am_ok (am_nx H) x.2) (h6 : am_nx H + 1 ≤ 1000000) {k n a : Nat} {H1 : Heap} {e : va_E} (he : am_cell τ (va_up ρ (am_nx H) a) (am_nw H k n) (am_nx H) = e)
    (hP1 : va_P (dC, dI) vwCl (am_ws τ ρ H ++ [(a, e)]) H1) (hD1 : va_D (am_A B0) (am_ws τ ρ H ++ [(a, e)])) (hS1 : va_S (am_A B0) s.heap H1 locs) :
    am_St nL lv (am_nw H k n) s dC dI τ B0 ρ0 nx0 n0 z0 (va_up ρ (am_nx H) a) H1 locs (cells + 1) (slots + n) ls ∧ am_ext (am_nx H) ρ (va_up ρ (am_nx H) a) := by
  obtain ⟨⟨j1, j2, j3⟩, ⟨-, -, hg, h5, -⟩, -, hc, hz, hl⟩ := S
  have hex : am_ext (am_nx H) ρ (va_up ρ (am_nx H) a) := fun b hb => va_up_ne _ _ (by omega)
  rw [am_ws_nw hg he] at hP1 hD1
  refine ⟨⟨⟨?_, ?_, j3.trans hex j1⟩, ⟨hP1, hD1, ?_, ?_, Nat.le_trans hB hS1.1⟩, hS1, ?_, ?_, ?_⟩, hex⟩
  · show nx0 ≤ am_nx H + 1; omega
  · intro h; exact absurd (show am_nx H + 1 = nx0 from h) (by omega)
  · intro x i b hb
    show b < am_nx H + 1
    by_cases hx : x = am_nx H
    · have e1 : am_gr (am_nw H k n) x i = none := if_pos hx
      rw [e1] at hb; cases hb
    · have e1 : am_gr (am_nw H k n) x i = am_gr H x i := if_neg hx
      rw [e1] at hb
      have := hg x i b hb
      omega
  · exact h6
  · show cells + 1 + n0 = am_nc H + 1; omega
  · show slots + n + z0 = am_nz H + n; omega
  · rw [am_cl_ext hex hlv]; exact hl
theorem am_sh_nw {k n : Nat} : am_sh (am_nw H k n) (am_nx H) = (k, n) := va_up_self _ _ _
theorem am_fresh_o {τ : Nat → ClassId} {ρ : Nat → Nat} {k n : Nat} (hk : k < 100) : am_cell τ ρ (am_nw H k n) (am_nx H) = .inr (k, (List.range n).map (fun i => if am_isr k i = true then .null else .int 0)) := by
  rw [am_cell_o (k := k) (n := n) am_sh_nw hk]
  unfold am_fs
  congr 2
  apply List.map_congr_left
  intro i _
  have e1 : am_gr (am_nw H k n) (am_nx H) i = none := if_pos rfl
  have e2 : am_gi (am_nw H k n) (am_nx H) i = 0 := if_pos rfl
  rw [e1, e2]; rfl
theorem am_new {idx ci : Nat} (hd : decode M.2.1 pc = .ok (.new idx, 3)) (hc : am_Cn M.1 idx ci) (hst : ∀ v ∈ st, am_ok (am_nx H) v) (hlv : ∀ x ∈ lv, am_ok (am_nx H) x.2) (h6 : am_nx H + 1 ≤ 1000000) (hcn : am_nc H + 1 ≤ am_nc H') (hzn : am_nz H + am_Nf ci ≤ am_nz H') (hq : pc + 3 = q) (kk : am_V ox d M q lv (.ref (am_nx H) :: st) (am_nw H ci (am_Nf ci)) o H') : am_V ox d M pc lv st H o H' := by
  subst hq
  intro l p e R s m args below meth c dC dI τ B0 ρ0 nx0 n0 z0 C ρ hp locs cells slots ls S
  obtain ⟨Cn, T, N, tys, ⟨hcl, hN, h100, hin, hty, hnm, hdf⟩, hlk, hins, hini⟩ := hc
  subst hN
  have hcc := S.2.2.2.1
  have hzz := S.2.2.2.2.1
  have hRc := C.2.2.2.2.2.2.2.2.2.2.2.2.1
  have hRz := C.2.2.2.2.2.2.2.2.2.2.2.2.2.1
  refine va_new (D := (dC, dI)) (ci := ci) (fs := (List.range (am_Nf ci)).map (fun i => if am_isr ci i = true then Value.null else .int 0)) (C := Cn) (T := T) (N := am_Nf ci) C.1 C.2.1 C.2.2.2.2.2.1 hin tys hty C.2.2.2.2.1 (C.2.2.2.2.2.1 _ hlk) (C.2.2.2.2.2.1 _ hins) (C.2.2.2.2.2.1 _ hini) C.2.2.2.2.2.2.2.1 S.2.1.1 S.2.1.2.1 S.2.2.1 (fun x hx => Nat.le_trans C.2.2.2.2.2.2.2.2.2.1 hx) hcl (fun j hj => by rw [hdf j hj]; simp [vp_V, hj]) (by omega) (by omega) hd (fun a H1 hP1 hD1 hS1 => ?_)
  obtain ⟨S', hex⟩ := am_grown S C.2.2.2.2.2.2.2.2.2.1 hlv h6 (am_fresh_o (n := am_Nf ci) h100) hP1 hD1 hS1
  have hk := kk l p e R s m args below meth c dC dI τ B0 ρ0 nx0 n0 z0 C _ H1 locs _ _ ls S'
  rw [List.map_cons, am_cvs_ext hex hst, show am_cv (va_up ρ (am_nx H) a) (.ref (am_nx H)) = .ref a from by show Value.ref (va_up ρ (am_nx H) a (am_nx H)) = .ref a; rw [va_up_self]] at hk
  exact hk
theorem am_newI {n : Int32} {N : Nat} (hd : decode M.2.1 pc = .ok (.newarray .int, 2)) (hw : Cond.arrayClass .int ∈ am_words) (hn : ¬ n < 0) (hN : n.toNatClampNeg = N) (hby : N ≤ 100000) (hst : ∀ v ∈ st, am_ok (am_nx H) v) (hlv : ∀ x ∈ lv, am_ok (am_nx H) x.2) (h6 : am_nx H + 1 ≤ 1000000) (hcn : am_nc H + 1 ≤ am_nc H') (hzn : am_nz H + N ≤ am_nz H') (hq : pc + 2 = q) (kk : am_V ox d M q lv (.ref (am_nx H) :: st) (am_nw H 100 N) o H') : am_V ox d M pc lv (.int n :: st) H o H' := by
  subst hq
  intro l p e R s m args below meth c dC dI τ B0 ρ0 nx0 n0 z0 C ρ hp locs cells slots ls S
  have hcc := S.2.2.2.1
  have hzz := S.2.2.2.2.1
  have hRc := C.2.2.2.2.2.2.2.2.2.2.2.2.1
  have hRz := C.2.2.2.2.2.2.2.2.2.2.2.2.2.1
  refine va_newa (atype := .int) (D := (dC, dI)) (ty := .int) (a0 := (N, .inl (fun _ => 0))) C.1 C.2.1 (C.2.2.2.2.2.1 _ hw) rfl C.2.2.2.2.2.2.2.1 S.2.1.1 S.2.1.2.1 S.2.2.1 (fun x hx => Nat.le_trans C.2.2.2.2.2.2.2.2.2.1 hx) (fun cA => rfl) hn hN (by show N * 4 ≤ 536870912; omega) (by omega) (by omega) hd (fun a cA H1 hK1 hP1 hD1 hS1 => ?_)
  have hcA : cA = τ 100 := am_ra_eq (hK1.2 (am_tys τ).length (cA, .int) (by simp)).2 (C.2.2.2.2.2.2.2.1.2 0 (τ 100, .int) (am_tys_at rfl)).2
  subst hcA
  have he : am_cell τ (va_up ρ (am_nx H) a) (am_nw H 100 N) (am_nx H) = .inl (τ 100, N, .inl (fun _ => 0)) := by
    rw [am_cell_i (n := N) am_sh_nw]
    congr 4
    funext y
    exact if_pos rfl
  obtain ⟨S', hex⟩ := am_grown S C.2.2.2.2.2.2.2.2.2.1 hlv h6 he hP1 hD1 hS1
  have hk := kk l p e R s m args below meth c dC dI τ B0 ρ0 nx0 n0 z0 C _ H1 locs _ _ ls S'
  rw [List.map_cons, am_cvs_ext hex hst, show am_cv (va_up ρ (am_nx H) a) (.ref (am_nx H)) = .ref a from by show Value.ref (va_up ρ (am_nx H) a (am_nx H)) = .ref a; rw [va_up_self]] at hk
  exact hk
theorem am_newZ {n : Int32} {N : Nat} (hd : decode M.2.1 pc = .ok (.newarray .boolean, 2)) (hw : Cond.arrayClass .boolean ∈ am_words) (hn : ¬ n < 0) (hN : n.toNatClampNeg = N) (hby : N ≤ 100000) (hst : ∀ v ∈ st, am_ok (am_nx H) v) (hlv : ∀ x ∈ lv, am_ok (am_nx H) x.2) (h6 : am_nx H + 1 ≤ 1000000) (hcn : am_nc H + 1 ≤ am_nc H') (hzn : am_nz H + N ≤ am_nz H') (hq : pc + 2 = q) (kk : am_V ox d M q lv (.ref (am_nx H) :: st) (am_nw H 101 N) o H') : am_V ox d M pc lv (.int n :: st) H o H' := by
  subst hq
  intro l p e R s m args below meth c dC dI τ B0 ρ0 nx0 n0 z0 C ρ hp locs cells slots ls S
  have hcc := S.2.2.2.1
  have hzz := S.2.2.2.2.1
  have hRc := C.2.2.2.2.2.2.2.2.2.2.2.2.1
  have hRz := C.2.2.2.2.2.2.2.2.2.2.2.2.2.1
  refine va_newa (atype := .boolean) (D := (dC, dI)) (ty := .boolean) (a0 := (N, .inl (fun _ => 0))) C.1 C.2.1 (C.2.2.2.2.2.1 _ hw) rfl C.2.2.2.2.2.2.2.1 S.2.1.1 S.2.1.2.1 S.2.2.1 (fun x hx => Nat.le_trans C.2.2.2.2.2.2.2.2.2.1 hx) (fun cA => rfl) hn hN (by show N * 1 ≤ 536870912; omega) (by omega) (by omega) hd (fun a cA H1 hK1 hP1 hD1 hS1 => ?_)
  have hcA : cA = τ 101 := am_ra_eq (hK1.2 (am_tys τ).length (cA, .boolean) (by simp)).2 (C.2.2.2.2.2.2.2.1.2 1 (τ 101, .boolean) (am_tys_at rfl)).2
  subst hcA
  have he : am_cell τ (va_up ρ (am_nx H) a) (am_nw H 101 N) (am_nx H) = .inl (τ 101, N, .inl (fun _ => 0)) := by
    rw [am_cell_z (n := N) am_sh_nw]
    congr 4
    funext y
    exact if_pos rfl
  obtain ⟨S', hex⟩ := am_grown S C.2.2.2.2.2.2.2.2.2.1 hlv h6 he hP1 hD1 hS1
  have hk := kk l p e R s m args below meth c dC dI τ B0 ρ0 nx0 n0 z0 C _ H1 locs _ _ ls S'
  rw [List.map_cons, am_cvs_ext hex hst, show am_cv (va_up ρ (am_nx H) a) (.ref (am_nx H)) = .ref a from by show Value.ref (va_up ρ (am_nx H) a (am_nx H)) = .ref a; rw [va_up_self]] at hk
  exact hk
theorem am_newL {n : Int32} {N : Nat} (hd : decode M.2.1 pc = .ok (.newarray .long, 2)) (hw : Cond.arrayClass .long ∈ am_words) (hn : ¬ n < 0) (hN : n.toNatClampNeg = N) (hby : N ≤ 100000) (hst : ∀ v ∈ st, am_ok (am_nx H) v) (hlv : ∀ x ∈ lv, am_ok (am_nx H) x.2) (h6 : am_nx H + 1 ≤ 1000000) (hcn : am_nc H + 1 ≤ am_nc H') (hzn : am_nz H + N ≤ am_nz H') (hq : pc + 2 = q) (kk : am_V ox d M q lv (.ref (am_nx H) :: st) (am_nw H 102 N) o H') : am_V ox d M pc lv (.int n :: st) H o H' := by
  subst hq
  intro l p e R s m args below meth c dC dI τ B0 ρ0 nx0 n0 z0 C ρ hp locs cells slots ls S
  have hcc := S.2.2.2.1
  have hzz := S.2.2.2.2.1
  have hRc := C.2.2.2.2.2.2.2.2.2.2.2.2.1
  have hRz := C.2.2.2.2.2.2.2.2.2.2.2.2.2.1
  refine va_newa (atype := .long) (D := (dC, dI)) (ty := .long) (a0 := (N, .inr (.inl (fun _ => 0)))) C.1 C.2.1 (C.2.2.2.2.2.1 _ hw) rfl C.2.2.2.2.2.2.2.1 S.2.1.1 S.2.1.2.1 S.2.2.1 (fun x hx => Nat.le_trans C.2.2.2.2.2.2.2.2.2.1 hx) (fun cA => rfl) hn hN (by show N * 8 ≤ 536870912; omega) (by omega) (by omega) hd (fun a cA H1 hK1 hP1 hD1 hS1 => ?_)
  have hcA : cA = τ 102 := am_ra_eq (hK1.2 (am_tys τ).length (cA, .long) (by simp)).2 (C.2.2.2.2.2.2.2.1.2 2 (τ 102, .long) (am_tys_at rfl)).2
  subst hcA
  have he : am_cell τ (va_up ρ (am_nx H) a) (am_nw H 102 N) (am_nx H) = .inl (τ 102, N, .inr (.inl (fun _ => 0))) := by
    rw [am_cell_l (n := N) am_sh_nw]
    congr 5
    funext y
    exact if_pos rfl
  obtain ⟨S', hex⟩ := am_grown S C.2.2.2.2.2.2.2.2.2.1 hlv h6 he hP1 hD1 hS1
  have hk := kk l p e R s m args below meth c dC dI τ B0 ρ0 nx0 n0 z0 C _ H1 locs _ _ ls S'
  rw [List.map_cons, am_cvs_ext hex hst, show am_cv (va_up ρ (am_nx H) a) (.ref (am_nx H)) = .ref a from by show Value.ref (va_up ρ (am_nx H) a (am_nx H)) = .ref a; rw [va_up_self]] at hk
  exact hk
theorem am_newQ {idx k t : Nat} {Cn : String} {n : Int32} {N : Nat} (hd : decode M.2.1 pc = .ok (.anewarray idx, 3)) (hlk : Cond.classLink M.1 idx Cn ∈ am_words) (hov : ∀ (B0 : Nat) (ρ : Nat → Nat) (s : State), am_O ox B0 ρ s → va_AO Cn s) (ht : am_kinds[t]? = some (103 + k, .object Cn)) (hn : ¬ n < 0) (hN : n.toNatClampNeg = N) (hby : N ≤ 100000) (hst : ∀ v ∈ st, am_ok (am_nx H) v) (hlv : ∀ x ∈ lv, am_ok (am_nx H) x.2) (h6 : am_nx H + 1 ≤ 1000000) (hcn : am_nc H + 1 ≤ am_nc H') (hzn : am_nz H + N ≤ am_nz H') (hq : pc + 3 = q) (kk : am_V ox d M q lv (.ref (am_nx H) :: st) (am_nw H (103 + k) N) o H') : am_V ox d M pc lv (.int n :: st) H o H' := by
  subst hq
  intro l p e R s m args below meth c dC dI τ B0 ρ0 nx0 n0 z0 C ρ hp locs cells slots ls S
  have hcc := S.2.2.2.1
  have hzz := S.2.2.2.2.1
  have hRc := C.2.2.2.2.2.2.2.2.2.2.2.2.1
  have hRz := C.2.2.2.2.2.2.2.2.2.2.2.2.2.1
  refine va_newq (D := (dC, dI)) C.1 C.2.1 C.2.2.2.2.1 (C.2.2.2.2.2.1 _ hlk) (hov _ _ _ C.2.2.2.2.2.2.2.2.2.2.2.2.2.2.2.2) C.2.2.2.2.2.2.2.1 S.2.1.1 S.2.1.2.1 S.2.2.1 (fun x hx => Nat.le_trans C.2.2.2.2.2.2.2.2.2.1 hx) hn hN (by omega) (by omega) (by omega) hd (fun a cA H1 hK1 hP1 hD1 hS1 => ?_)
  have hcA : cA = τ (103 + k) := am_ra_eq (hK1.2 (am_tys τ).length (cA, .object Cn) (by simp)).2 (C.2.2.2.2.2.2.2.1.2 t (τ (103 + k), .object Cn) (am_tys_at ht)).2
  subst hcA
  have he : am_cell τ (va_up ρ (am_nx H) a) (am_nw H (103 + k) N) (am_nx H) = .inl (τ (103 + k), N, .inr (.inr (.inr (.inr (fun _ => none))))) := by
    rw [am_cell_q (n := N) am_sh_nw]
    congr 8
    funext y
    have e1 : am_gr (am_nw H (103 + k) N) (am_nx H) y = none := if_pos rfl
    rw [e1]; rfl
  obtain ⟨S', hex⟩ := am_grown S C.2.2.2.2.2.2.2.2.2.1 hlv h6 he hP1 hD1 hS1
  have hk := kk l p e R s m args below meth c dC dI τ B0 ρ0 nx0 n0 z0 C _ H1 locs _ _ ls S'
  rw [List.map_cons, am_cvs_ext hex hst, show am_cv (va_up ρ (am_nx H) a) (.ref (am_nx H)) = .ref a from by show Value.ref (va_up ρ (am_nx H) a (am_nx H)) = .ref a; rw [va_up_self]] at hk
  exact hk
theorem am_cat {st : List Value} (ρ : Nat → Nat) : ((st.map (am_cv ρ)).map fun v => v.category) = st.map fun v => v.category := by
  rw [List.map_map]
  apply List.map_congr_left
  intro v _
  exact am_cv_cat ρ v
theorem am_objInit {idx a : Nat} (hd : decode M.2.1 pc = .ok (.invokespecial idx, 3)) (hd1 : 1 ≤ d) (h1 : Cond.methodLink M.1 idx Lib.objectInit ∈ am_words) (h2 : Cond.instanceMethod Lib.objectInit ∈ am_words) (h3 : Cond.code Lib.objectInit ⟨#[0xb1]⟩ 1 none ∈ am_words) (hc8 : (st.map fun v => v.category).sum ≤ 8) (hq : pc + 3 = q) (kk : am_V ox d M q lv st H o H') : am_V ox d M pc lv (.ref a :: st) H o H' := by
  subst hq
  intro l p e R s m args below meth c dC dI τ B0 ρ0 nx0 n0 z0 C ρ hp locs cells slots ls S
  refine W.objInit C.1 C.2.1 C.2.2.2.2.1 (C.2.2.2.2.2.1 _ h1) (C.2.2.2.2.2.1 _ h2) (C.2.2.2.2.2.1 _ h3) rfl (by rw [C.2.2.1]; exact S.2.2.2.2.2.1) (a := ρ a) (rest := st.map (am_cv ρ)) rfl hd (by have := C.2.2.2.2.2.2.2.2.2.2.1; omega) ?_ (kk l p e R s m args below meth c dC dI τ B0 ρ0 nx0 n0 z0 C ρ hp locs cells slots ls S)
  rw [am_cat]
  have := C.2.2.2.2.2.2.2.2.2.2.2.1
  show 2 * 0 + _ + 12 ≤ _
  omega
-- ends
theorem am_iret {v : Int32} {ty : FieldType} (hd : decode M.2.1 pc = .ok (.ireturn, 1)) (ht : M.2.2.2.1 = some ty) (hn : narrow ty (.int v) = .int v) : am_V ox d M pc lv [.int v] H (.inl (some (.int v))) H := by
  intro l p e R s m args below meth c dC dI τ B0 ρ0 nx0 n0 z0 C ρ hp locs cells slots ls S
  have e1 : am_nc H - n0 = cells := by have := S.2.2.2.1; omega
  have e2 : am_nz H - z0 = slots := by have := S.2.2.2.2.1; omega
  rw [e1, e2]
  exact am_ret (W.zret C.1 C.2.1 (C.2.2.2.1.trans ht) hn (fun t ht hW => ⟨⟨some (.int v), ρ, rfl, rfl, S.1, by rw [ht]; exact S.2.1⟩, S.2.2.1.F ht⟩) S.2.2.1.2.2 hd (hlocks := C.2.2.2.2.2.2.1))
theorem am_aret {b : Nat} {ty : FieldType} (hd : decode M.2.1 pc = .ok (.areturn, 1)) (ht : M.2.2.2.1 = some ty) (hr : (∃ n, ty = .object n) ∨ ∃ t, ty = .array t) : am_V ox d M pc lv [.ref b] H (.inl (some (.ref b))) H := by
  intro l p e R s m args below meth c dC dI τ B0 ρ0 nx0 n0 z0 C ρ hp locs cells slots ls S
  have e1 : am_nc H - n0 = cells := by have := S.2.2.2.1; omega
  have e2 : am_nz H - z0 = slots := by have := S.2.2.2.2.1; omega
  rw [e1, e2]
  exact am_ret (W.aret (v := .ref (ρ b)) C.1 C.2.1 (C.2.2.2.1.trans ht) hr (Or.inr ⟨_, rfl⟩) (fun t ht hW => ⟨⟨some (.ref b), ρ, rfl, rfl, S.1, by rw [ht]; exact S.2.1⟩, S.2.2.1.F ht⟩) S.2.2.1.2.2 hd (hlocks := C.2.2.2.2.2.2.1))
theorem am_vret (hd : decode M.2.1 pc = .ok (.return_, 1)) (ht : M.2.2.2.1 = none) : am_V ox d M pc lv [] H (.inl none) H := by
  intro l p e R s m args below meth c dC dI τ B0 ρ0 nx0 n0 z0 C ρ hp locs cells slots ls S
  have e1 : am_nc H - n0 = cells := by have := S.2.2.2.1; omega
  have e2 : am_nz H - z0 = slots := by have := S.2.2.2.2.1; omega
  rw [e1, e2]
  exact am_ret (W.vret C.1 C.2.1 (C.2.2.2.1.trans ht) (fun t ht hW => ⟨⟨none, ρ, rfl, rfl, S.1, by rw [ht]; exact S.2.1⟩, S.2.2.1.F ht⟩) S.2.2.1.2.2 hd (hlocks := C.2.2.2.2.2.2.1))
/-- more cells may be counted than were made -/
theorem am_widen {H2 : am_H} (h1 : am_nx H = am_nx H2) (h2 : am_sh H = am_sh H2) (h3 : am_gi H = am_gi H2) (h4 : am_gr H = am_gr H2) (h5 : am_gl H = am_gl H2) (hc : am_nc H ≤ am_nc H2) (hz : am_nz H ≤ am_nz H2) (kk : am_V ox d M pc lv st H2 o H') : am_V ox d M pc lv st H o H' := by
  intro l p e R s m args below meth c dC dI τ B0 ρ0 nx0 n0 z0 C ρ hp locs cells slots ls S
  have hcc := S.2.2.2.1
  have hzz := S.2.2.2.2.1
  have ew : am_ws τ ρ H = am_ws τ ρ H2 := by unfold am_ws am_cell am_fs; rw [h1, h2, h3, h4, h5]
  refine W.widen (k := am_nc H2 - n0) (n := am_nz H2 - z0) (by omega) (by omega) (kk l p e R s m args below meth c dC dI τ B0 ρ0 nx0 n0 z0 C ρ hp locs _ _ ls ⟨?_, ?_, S.2.2.1, by omega, by omega, S.2.2.2.2.2⟩)
  · have := S.1; unfold am_J at this ⊢; rw [← h1]; exact this
  · have := S.2.1; unfold am_P at this ⊢; rw [← h1, ← h4, ← ew]; exact this
-- contracts
end AMN
def am_C (ox : List (Nat × (Nat → Int32))) (d : Nat) (y : MethodName) (M : am_M) (as : List Value) (H : am_H) (o : Option Value ⊕ String) (H' : am_H) : Prop :=
  ∀ (l : Launch), l.stackTraces = false → ∀ (dC : Nat → ClassId) (dI : Nat → Nat → Nat) (τ : Nat → ClassId) (B0 : Nat) (ρ : Nat → Nat),
    am_Met l y (Cond.code y M.2.1 M.2.2.1 M.2.2.2.1 :: am_words) (am_rm d (am_nc H' - am_nc H) (am_nz H' - am_nz H)) (va_Pc (as.map (am_cv ρ)) (am_B ox dC dI τ B0 ρ H)) (am_Q dC dI τ B0 ρ (am_nx H) o H') (am_X dC dI τ B0 ρ (am_nx H) o H') (am_nc H' - am_nc H) (am_nz H' - am_nz H) (am_A B0)
theorem am_args {ρ : Nat → Nat} : ∀ (as : List Value) (i : Nat), lv_args i (as.map (am_cv ρ)) = am_cl ρ (lv_args i as)
  | [], _ => rfl
  | v :: vs, i => by
    show (i, am_cv ρ v) :: lv_args (if (am_cv ρ v).category = 2 then i + 2 else i + 1) (vs.map (am_cv ρ)) = (i, am_cv ρ v) :: am_cl ρ (lv_args (if v.category = 2 then i + 2 else i + 1) vs)
    rw [am_cv_cat, am_args vs]
theorem am_sll {ρ : Nat → Nat} : ∀ (as : List Value), (lg_sl (as.map (am_cv ρ))).length = (lg_sl as).length
  | [] => rfl
  | v :: vs => by
    have := am_sll (ρ := ρ) vs
    unfold lg_sl at this ⊢
    rw [List.map_cons, List.flatMap_cons, List.flatMap_cons, List.length_append, List.length_append, this, am_cv_cat]
    by_cases h : v.category = 2
    · rw [if_pos h, if_pos h]; rfl
    · rw [if_neg h, if_neg h]; rfl
theorem am_enter {ox : List (Nat × (Nat → Int32))} {d : Nat} {y : MethodName} {M : am_M} {as : List Value} {H H' : am_H} {o : Option Value ⊕ String} (hy : plainName y.cls = true) (hc : M.1 = y.cls) (hnm : M.2.2.2.2.1 = y.name) (htb : M.2.2.2.2.2 = []) (hls : (lg_sl as).length ≤ M.2.2.1) (h1 : am_nc H ≤ am_nc H') (h2 : am_nz H ≤ am_nz H') (h : am_V ox d M 0 (lv_args 0 as) [] H o H') : am_C ox d y M as H o H' := by
  intro l hl dC dI τ B0 ρ
  refine am_ofW (cc := M.2.1) (maxL := M.2.2.1) (ret := M.2.2.2.1) hy rfl ?_
  intro p e s m args below meth c s₁ B hml htab hv
  obtain ⟨rfl, hP, hK, hO⟩ := hv
  have hts := atoms_spec (ws := Cond.code y M.2.1 M.2.2.1 M.2.2.2.1 :: am_words) B.pre
  have hle := lv_entry (as.map (am_cv ρ)) (n := M.2.2.1) (by rw [am_sll]; exact hls)
  rw [lg_entry_eq]
  generalize (lg_sl (as.map (am_cv ρ)) ++ List.replicate (M.2.2.1 - (lg_sl (as.map (am_cv ρ))).length) Slot.unset).toArray = ls at hle ⊢
  rw [am_args] at hle
  refine h l p e (am_rm d (am_nc H' - am_nc H) (am_nz H' - am_nz H)) s m _ below meth c dC dI τ B0 ρ (am_nx H) (am_nc H) (am_nz H) ⟨B.exec, B.bytes, hml, B.returns, by rw [hc]; exact findClass_of_methodNamed B.named, fun w hw => hts w (List.mem_cons_of_mem _ hw), B.notSynchronized, hK, hl, hP.2.2.2.2, Nat.le_refl _, Nat.le_refl _, ?_, ?_, ?_, ?_, hO⟩ ρ s.heap [] 0 0 ls ⟨⟨Nat.le_refl _, fun _ => rfl, am_ext.rf⟩, hP, va_S.rf, Nat.zero_add _, Nat.zero_add _, hle⟩
  · show am_nc H' ≤ am_nc H + (am_nc H' - am_nc H); omega
  · show am_nz H' ≤ am_nz H + (am_nz H' - am_nz H); omega
  · intro _; rw [hnm]; exact (name_of_methodNamed B.named B.method).1
  · intro _; rw [htb]; exact htab
end
section
/-! THE ABSTRACT MACHINE, part 6: calls. -/
section AMC
variable {ox : List (Nat × (Nat → Int32))} {d : Nat} {M : am_M} {pc q : Nat} {lv : List (Nat × Value)} {st stk : List Value} {H H1 H' : am_H} {o : Option Value ⊕ String}
/-- may the numbering grow under these values -/
def am_fine (H H1 : am_H) (lv : List (Nat × Value)) (st : List Value) : Prop := am_nx H1 = am_nx H ∨ (am_nx H ≤ am_nx H1 ∧ (∀ v ∈ st, am_ok (am_nx H) v) ∧ ∀ x ∈ lv, am_ok (am_nx H) x.2)
theorem am_fine.le {H H1 : am_H} {lv : List (Nat × Value)} {st : List Value} (h : am_fine H H1 lv st) : am_nx H ≤ am_nx H1 := by
  rcases h with h | h
  · omega
  · exact h.1
/-- the state behind a call -/
theorem am_after {nL : Nat} {s : State} {dC : Nat → ClassId} {dI : Nat → Nat → Nat} {τ : Nat → ClassId} {B0 : Nat} {ρ0 : Nat → Nat} {nx0 n0 z0 : Nat} {ρ ρ' : Nat → Nat} {hp hp1 : Heap} {locs locs1 : List Loc} {cells slots : Nat} {ls : Array Slot} (S : am_St nL lv H s dC dI τ B0 ρ0 nx0 n0 z0 ρ hp locs cells slots ls)
    (hf : am_fine H H1 lv st) (hc : am_nc H ≤ am_nc H1) (hz : am_nz H ≤ am_nz H1) (hJ : am_J (am_nx H) ρ ρ' H1) (hP : am_P dC dI τ B0 ρ' H1 hp1) (hS : va_S (am_A B0) s.heap hp1 locs1) :
    am_St nL lv H1 s dC dI τ B0 ρ0 nx0 n0 z0 ρ' hp1 locs1 (cells + (am_nc H1 - am_nc H)) (slots + (am_nz H1 - am_nz H)) ls ∧ st.map (am_cv ρ') = st.map (am_cv ρ) := by
  obtain ⟨⟨j1, j2, j3⟩, -, -, hcc, hzz, hl⟩ := S
  have hle := hf.le
  have hlv : am_cl ρ' lv = am_cl ρ lv ∧ st.map (am_cv ρ') = st.map (am_cv ρ) := by
    rcases hf with h | h
    · rw [hJ.2.1 h]; exact ⟨rfl, rfl⟩
    · exact ⟨am_cl_ext hJ.2.2 h.2.2, am_cvs_ext hJ.2.2 h.2.1⟩
  refine ⟨⟨⟨by omega, fun h => ?_, j3.trans hJ.2.2 j1⟩, hP, hS, by omega, by omega, by rw [hlv.1]; exact hl⟩, hlv.2⟩
  rw [hJ.2.1 (by omega)]
  exact j2 (by omega)
theorem am_keep {B0 : Nat} {hp H0 : Heap} {st₀ t T' : State} {locs L : List Loc} (h0 : st₀.heap = hp) (e1 : T'.heap = t.heap) (hS : va_S (am_A B0) H0 hp locs) (hL : ∀ q ∈ L, am_A B0 q.base) (hF : va_F (am_A B0) st₀ t) : va_S (am_A B0) H0 T'.heap (locs ++ L) := by
  obtain ⟨hz, hk⟩ := hF
  rw [h0] at hz hk
  refine ⟨Nat.le_trans hS.1 (by rw [e1]; exact hz), fun q h1 h2 => ?_, fun q hq => ?_⟩
  · rw [e1, hk q (Nat.lt_of_lt_of_le h1 hS.1) h2]; exact hS.2.1 q h1 h2
  · rcases List.mem_append.mp hq with h | h
    · exact hS.2.2 q h
    · exact hL q h
theorem am_C.met {d : Nat} {y : MethodName} {M : am_M} {as : List Value} {v : Option Value} (h : am_C ox d y M as H (.inl v) H1) (l : Launch) (hl : l.stackTraces = false) (dC : Nat → ClassId) (dI : Nat → Nat → Nat) (τ : Nat → ClassId) (B0 : Nat) (ρ : Nat → Nat) :
    Met l y (Cond.code y M.2.1 M.2.2.1 M.2.2.2.1 :: am_words) (am_rm d (am_nc H1 - am_nc H) (am_nz H1 - am_nz H)) (va_Pc (as.map (am_cv ρ)) (am_B ox dC dI τ B0 ρ H)) (am_Q dC dI τ B0 ρ (am_nx H) (.inl v) H1) (am_nc H1 - am_nc H) (am_nz H1 - am_nz H) (am_A B0) := by
  refine MetFree.mono (h l hl dC dI τ B0 ρ) (fun _ _ h => h) (fun _ _ _ _ _ h => h) (fun a s o t _ hq => ?_)
  rcases hq with hq | ⟨q, -, E, ce, ⟨⟨⟨ρ', ho, -⟩, -⟩, -⟩, -⟩
  · exact hq
  · cases ho
theorem am_cont {v : Option Value} {l : Launch} {p : Program} {e : Env} {R : Room} {s : State} {m : MethodId} {args a : Array Value} {below : List Frame} {meth : Method} {c : Code} {dC : Nat → ClassId} {dI : Nat → Nat → Nat} {τ : Nat → ClassId} {B0 : Nat} {ρ0 : Nat → Nat} {nx0 n0 z0 : Nat} (C : am_Cx ox d M l p R s m args meth c dC dI τ B0 ρ0 n0 z0 H') {ρ : Nat → Nat} {hp : Heap} {locs : List Loc} {cells slots : Nat} {ls : Array Slot} {st0 : List Value}
    (S : am_St M.2.2.1 lv H s dC dI τ B0 ρ0 nx0 n0 z0 ρ hp locs cells slots ls) (hf : am_fine H H1 lv st) (hc : am_nc H ≤ am_nc H1) (hz : am_nz H ≤ am_nz H1)
    (hr : va_Run p l e R s m args below meth c hp locs cells slots (am_nc H1 - am_nc H) (am_nz H1 - am_nz H) (F0 m pc ls st0) (st.map (am_cv ρ)) (am_Q dC dI τ B0 ρ (am_nx H) (.inl v) H1 a) (am_A B0))
    (kk : am_V ox d M (pc + 3) lv (v.toList ++ st) H1 o H') :
    W p l e R s m args below meth c hp locs cells slots (am_MQ below (am_Q dC dI τ B0 ρ0 nx0 o H') (am_X dC dI τ B0 ρ0 nx0 o H') args s (am_nc H' - n0) (am_nz H' - z0) (am_A B0)) (F0 m pc ls st0) := by
  intro T hT X
  obtain ⟨v', st₀, t, T', L, h0, X', hL, e1, e2, ⟨⟨w, ρ', ho, hv, hJ, hP⟩, hF⟩, stp⟩ := hr T hT X
  cases ho
  have hS1 := am_keep h0 e1 S.2.2.1 hL hF
  obtain ⟨S', est⟩ := am_after S hf hc hz hJ (by rw [e1]; exact hP) hS1
  have hk := kk l p e R s m args below meth c dC dI τ B0 ρ0 nx0 n0 z0 C ρ' T'.heap (locs ++ L) _ _ ls S'
  rw [List.map_append, est] at hk
  obtain ⟨t2, a1, b1⟩ := hk T' rfl X'
  refine ⟨t2, stp t2 ?_, b1⟩
  cases hv
  cases v <;> exact a1
theorem am_pre {y : MethodName} {Mc : am_M} {as : List Value} {l : Launch} {p : Program} {R : Room} {s : State} {m : MethodId} {args : Array Value} {meth : Method} {c : Code} {dC : Nat → ClassId} {dI : Nat → Nat → Nat} {τ : Nat → ClassId} {B0 : Nat} {ρ0 : Nat → Nat} {nx0 n0 z0 : Nat} (C : am_Cx ox d M l p R s m args meth c dC dI τ B0 ρ0 n0 z0 H') {ρ : Nat → Nat} {hp : Heap} {locs : List Loc} {cells slots : Nat} {ls : Array Slot}
    (S : am_St M.2.2.1 lv H s dC dI τ B0 ρ0 nx0 n0 z0 ρ hp locs cells slots ls) : PreS s hp (va_Pc (as.map (am_cv ρ)) (am_B ox dC dI τ B0 ρ H)) (as.map (am_cv ρ)) := by
  refine ⟨fun a U g mk h => ⟨h.1, h.2.1, va_K.moved (u := U) (U := U.calling g mk a) (Vm.Alike.refl U.vm) h.2.2.1, am_O.calling h.2.2.2⟩, fun U hU hW => ⟨rfl, by rw [hU]; exact S.2.1, va_K.moved hW.alike C.2.2.2.2.2.2.2.1, ?_⟩⟩
  exact am_O.to (am_O.ext C.2.2.2.2.2.2.2.2.2.2.2.2.2.2.2.2 S.1.2.2) hW (fun x hx => by rw [hU]; exact S.2.2.1.2.1 x (Nat.lt_of_lt_of_le hx C.2.2.2.2.2.2.2.2.2.1) (Nat.not_le.mpr hx))
def am_My (y : MethodName) (Mc : am_M) (n : Nat) : Prop := Cond.code y Mc.2.1 Mc.2.2.1 Mc.2.2.2.1 ∈ am_words ∧ Cond.initialized y.cls ∈ am_words ∧ (y.cls ≠ "java/lang/invoke/MethodHandle" ∧ y.cls ≠ "java/lang/invoke/VarHandle" ∧ (parseMethodDescriptor y.desc).map (fun d => d.parameters.length) = some n) ∧ Mc.2.2.1 ≤ 7
theorem am_cb {y : MethodName} {Mc : am_M} {n idx : Nat} {l : Launch} {p : Program} {R : Room} {s : State} {m : MethodId} {args : Array Value} {meth : Method} {c : Code} {dC : Nat → ClassId} {dI : Nat → Nat → Nat} {τ : Nat → ClassId} {B0 : Nat} {ρ0 : Nat → Nat} {n0 z0 : Nat} (C : am_Cx ox (d + 1) M l p R s m args meth c dC dI τ B0 ρ0 n0 z0 H') (hy : am_My y Mc n) (hlk : Cond.methodLink M.1 idx y ∈ am_words) (mc ms : Nat) :
    CallB R s args M.1 idx y Mc.2.1 Mc.2.2.1 Mc.2.2.2.1 (Cond.code y Mc.2.1 Mc.2.2.1 Mc.2.2.2.1 :: am_words) (am_rm d mc ms) mc ms n := by
  obtain ⟨hcd, hini, hd, h7⟩ := hy
  refine callB_of (Ts := am_words) n C.2.2.2.2.2.1 (fun w hw => ?_) rfl rfl rfl (C.2.2.2.2.2.1 _ hini) (C.2.2.2.2.2.1 _ hlk) hd ⟨?_, ?_⟩
  · rcases List.mem_cons.mp hw with rfl | hw
    · exact ⟨hcd, am_good _ hcd⟩
    · exact ⟨hw, am_good _ hw⟩
  · have := C.2.2.2.2.2.2.2.2.2.2.1
    show d + 1 ≤ R.frames
    omega
  · have := C.2.2.2.2.2.2.2.2.2.2.2.1
    show 8 + (Mc.2.2.1 + 11) + (116 + 26 * d) ≤ R.locals
    omega
theorem am_room {y : MethodName} {l : Launch} {p : Program} {R : Room} {s : State} {m : MethodId} {args : Array Value} {meth : Method} {c : Code} {dC : Nat → ClassId} {dI : Nat → Nat → Nat} {τ : Nat → ClassId} {B0 : Nat} {ρ0 : Nat → Nat} {nx0 n0 z0 : Nat} (C : am_Cx ox d M l p R s m args meth c dC dI τ B0 ρ0 n0 z0 H') {ρ : Nat → Nat} {hp : Heap} {locs : List Loc} {cells slots : Nat} {ls : Array Slot}
    (S : am_St M.2.2.1 lv H s dC dI τ B0 ρ0 nx0 n0 z0 ρ hp locs cells slots ls) (hc : am_nc H ≤ am_nc H1) (hz : am_nz H ≤ am_nz H1) (hc2 : am_nc H1 ≤ am_nc H') (hz2 : am_nz H1 ≤ am_nz H') : cells + (am_nc H1 - am_nc H) ≤ R.cells ∧ slots + (am_nz H1 - am_nz H) ≤ R.slots := by
  have h1 := S.2.2.2.1
  have h2 := S.2.2.2.2.1
  have h3 := C.2.2.2.2.2.2.2.2.2.2.2.2.1
  have h4 := C.2.2.2.2.2.2.2.2.2.2.2.2.2.1
  omega
theorem am_callS {y : MethodName} {Mc : am_M} {as : List Value} {v : Option Value} {idx n : Nat} (hd : decode M.2.1 pc = .ok (.invokestatic idx, 3)) (hC : am_C ox d y Mc as H (.inl v) H1) (hy : am_My y Mc n) (hlk : Cond.methodLink M.1 idx y ∈ am_words) (hs : Cond.static y ∈ am_words) (hn : as.length = n) (hst : stk = as.reverse ++ st) (hc8 : (st.map fun v => v.category).sum ≤ 8) (hf : am_fine H H1 lv st) (hc : am_nc H ≤ am_nc H1) (hz : am_nz H ≤ am_nz H1) (hc2 : am_nc H1 ≤ am_nc H') (hz2 : am_nz H1 ≤ am_nz H') (hq : pc + 3 = q) (kk : am_V ox (d + 1) M q lv (v.toList ++ st) H1 o H') : am_V ox (d + 1) M pc lv stk H o H' := by
  subst hq
  subst hst
  intro l p e R s m args below meth c dC dI τ B0 ρ0 nx0 n0 z0 C ρ hp locs cells slots ls S
  refine am_cont C S hf hc hz (va_runS (As := as.map (am_cv ρ)) (rest := st.map (am_cv ρ)) ⟨C.1, C.2.1, C.2.2.1, C.2.2.2.2.1, C.2.2.2.2.2.1⟩ (hC.met l C.2.2.2.2.2.2.2.2.1 dC dI τ B0 ρ) ⟨am_cb C hy hlk _ _, C.2.2.2.2.2.1 _ hs⟩ (am_pre (y := y) (Mc := Mc) C S) rfl (by rw [List.length_map]; exact hn) S.2.2.2.2.2.1 (by simp) ?_ hd (am_room (y := y) C S hc hz hc2 hz2)) kk
  rw [am_cat]
  show 2 * 0 + _ ≤ 8
  omega
theorem am_callV {y : MethodName} {Mc : am_M} {as : List Value} {v : Option Value} {idx n b ci N : Nat} {r : vw_C} (hd : decode M.2.1 pc = .ok (.invokevirtual idx, 3)) (hC : am_C ox d y Mc (.ref b :: as) H (.inl v) H1) (hy : am_My y Mc n) (hlk : Cond.methodLink M.1 idx y ∈ am_words) (hi : Cond.instanceMethod y ∈ am_words) (hse : Cond.selects r.1 y y ∈ am_words) (hr : vwCl[ci]? = some r) (h100 : ci < 100) (hs : am_sh H b = (ci, N)) (hb : b < am_nx H) (hn : as.length = n) (hst : stk = as.reverse ++ .ref b :: st) (hc8 : (st.map fun v => v.category).sum ≤ 8) (hf : am_fine H H1 lv st) (hc : am_nc H ≤ am_nc H1) (hz : am_nz H ≤ am_nz H1) (hc2 : am_nc H1 ≤ am_nc H') (hz2 : am_nz H1 ≤ am_nz H') (hq : pc + 3 = q) (kk : am_V ox (d + 1) M q lv (v.toList ++ st) H1 o H') : am_V ox (d + 1) M pc lv stk H o H' := by
  subst hq
  subst hst
  intro l p e R s m args below meth c dC dI τ B0 ρ0 nx0 n0 z0 C ρ hp locs cells slots ls S
  have hcell := am_ws_at (τ := τ) (ρ := ρ) hb
  rw [am_cell_o hs h100] at hcell
  have hp9 := am_pre (y := y) (Mc := Mc) (as := .ref b :: as) C S
  refine am_cont C S hf hc hz (va_runV (C := r.1) (b := ρ b) (As := as.map (am_cv ρ)) (rest := st.map (am_cv ρ)) ⟨C.1, C.2.1, C.2.2.1, C.2.2.2.2.1, C.2.2.2.2.2.1⟩ (hC.met l C.2.2.2.2.2.2.2.2.1 dC dI τ B0 ρ) ⟨am_cb C hy hlk _ _, C.2.2.2.2.2.1 _ hi, C.2.2.2.2.2.1 _ hse⟩ ⟨hp9.1, va_recv C.2.2.2.2.2.2.2.1 S.2.1.1 hr hcell, hp9.2⟩ rfl (by rw [List.length_map]; exact hn) S.2.2.2.2.2.1 (by simp [am_cv]) ?_ hd (am_room (y := y) C S hc hz hc2 hz2)) kk
  rw [am_cat]
  show 2 * 0 + _ ≤ 8
  omega
theorem am_callI {y : MethodName} {Mc : am_M} {as : List Value} {idx n b : Nat} (hd : decode M.2.1 pc = .ok (.invokespecial idx, 3)) (hC : am_C ox d y Mc (.ref b :: as) H (.inl none) H1) (hy : am_My y Mc n) (hret : Mc.2.2.2.1 = none) (hy1 : y.name = "<init>") (hlk : Cond.methodLink M.1 idx y ∈ am_words) (hi : Cond.instanceMethod y ∈ am_words) (hn : as.length = n) (hst : stk = as.reverse ++ .ref b :: st) (hc8 : (st.map fun v => v.category).sum ≤ 8) (hf : am_fine H H1 lv st) (hc : am_nc H ≤ am_nc H1) (hz : am_nz H ≤ am_nz H1) (hc2 : am_nc H1 ≤ am_nc H') (hz2 : am_nz H1 ≤ am_nz H') (hq : pc + 3 = q) (kk : am_V ox (d + 1) M q lv st H1 o H') : am_V ox (d + 1) M pc lv stk H o H' := by
  subst hq
  subst hst
  intro l p e R s m args below meth c dC dI τ B0 ρ0 nx0 n0 z0 C ρ hp locs cells slots ls S
  have hp9 := am_pre (y := y) (Mc := Mc) (as := .ref b :: as) C S
  have hcb := am_cb C hy hlk (am_nc H1 - am_nc H) (am_nz H1 - am_nz H)
  have hM := hC.met l C.2.2.2.2.2.2.2.2.1 dC dI τ B0 ρ
  rw [hret] at hcb hM
  refine am_cont (v := none) C S hf hc hz (va_runI (b := ρ b) (As := as.map (am_cv ρ)) (rest := st.map (am_cv ρ)) ⟨C.1, C.2.1, C.2.2.1, C.2.2.2.2.1, C.2.2.2.2.2.1⟩ hM ⟨hcb, hy1, C.2.2.2.2.2.1 _ hi⟩ hp9 rfl (by rw [List.length_map]; exact hn) S.2.2.2.2.2.1 (by simp [am_cv]) ?_ hd (am_room (y := y) C S hc hz hc2 hz2)) kk
  rw [am_cat]
  show 2 * 0 + _ ≤ 8
  omega
end AMC
end
section
/-! THE ABSTRACT MACHINE, part 7: what was there before, throws. -/
section AMT
variable {ox : List (Nat × (Nat → Int32))} {d : Nat} {M : am_M} {pc q : Nat} {lv : List (Nat × Value)} {st : List Value} {H H' : am_H} {o : Option Value ⊕ String}
theorem am_sld {i : Nat} {r : Nat × (Nat → Int32)} {x : Int32} (hd : decode M.2.1 pc = .ok (.iaload, 1)) (ho : ox[i]? = some r) (hin : vp_in x r.1) (hq : pc + 1 = q) (kk : am_V ox d M q lv (.int (r.2 x.toNatClampNeg) :: st) H o H') : am_V ox d M pc lv (.int x :: .ref (1000000 + i) :: st) H o H' := by
  subst hq
  intro l p e R s m args below meth c dC dI τ B0 ρ0 nx0 n0 z0 C ρ hp locs cells slots ls S
  have hO := (am_O.ext C.2.2.2.2.2.2.2.2.2.2.2.2.2.2.2.2 S.1.2.2).1 i r ho
  exact va_sld C.1 C.2.1 hO.1 (Nat.lt_of_lt_of_le hO.2 C.2.2.2.2.2.2.2.2.2.1) (Nat.not_le.mpr hO.2) S.2.2.1 hin hd (kk l p e R s m args below meth c dC dI τ B0 ρ0 nx0 n0 z0 C ρ hp locs cells slots ls S)
theorem am_slen {i : Nat} {r : Nat × (Nat → Int32)} (hd : decode M.2.1 pc = .ok (.arraylength, 1)) (ho : ox[i]? = some r) (hq : pc + 1 = q) (kk : am_V ox d M q lv (.int (nI r.1) :: st) H o H') : am_V ox d M pc lv (.ref (1000000 + i) :: st) H o H' := by
  subst hq
  intro l p e R s m args below meth c dC dI τ B0 ρ0 nx0 n0 z0 C ρ hp locs cells slots ls S
  have hO := (am_O.ext C.2.2.2.2.2.2.2.2.2.2.2.2.2.2.2.2 S.1.2.2).1 i r ho
  exact va_slen C.1 C.2.1 hO.1 (Nat.lt_of_lt_of_le hO.2 C.2.2.2.2.2.2.2.2.2.1) (Nat.not_le.mpr hO.2) S.2.2.1 hd (kk l p e R s m args below meth c dC dI τ B0 ρ0 nx0 n0 z0 C ρ hp locs cells slots ls S)
theorem am_gets {Cn n ds : String} {i idx : Nat} (hd : decode M.2.1 pc = .ok (.getstatic idx, 3)) (hz : (Cn, n, ds, i) ∈ am_sts) (hlk : Cond.fieldLink M.1 idx Cn n ds ∈ am_words) (hq : pc + 3 = q) (kk : am_V ox d M q lv (.ref (1000000 + i) :: st) H o H') : am_V ox d M pc lv st H o H' := by
  subst hq
  intro l p e R s m args below meth c dC dI τ B0 ρ0 nx0 n0 z0 C ρ hp locs cells slots ls S
  have hO := (am_O.ext C.2.2.2.2.2.2.2.2.2.2.2.2.2.2.2.2 S.1.2.2).2.1 _ hz
  exact va_gets C.1 C.2.1 hO S.2.2.1 C.2.2.2.2.1 (C.2.2.2.2.2.1 _ hlk) (fun _ h => h) hd (kk l p e R s m args below meth c dC dI τ B0 ρ0 nx0 n0 z0 C ρ hp locs cells slots ls S)
theorem am_mmax {idx : Nat} {x y : Int32} (hd : decode M.2.1 pc = .ok (.invokestatic idx, 3)) (hd1 : 1 ≤ d) (hlk : Cond.methodLink M.1 idx Lib.Math.max.name ∈ am_words) (hst : Cond.static Lib.Math.max.name ∈ am_words) (hini : Cond.initialized "java/lang/Math" ∈ am_words) (hcd : Cond.code Lib.Math.max.name Lib.Math.max.code 2 (some .int) ∈ am_words) (hc8 : (st.map fun v => v.category).sum ≤ 8) (hcn : am_nc H ≤ am_nc H') (hzn : am_nz H ≤ am_nz H') (hq : pc + 3 = q) (kk : am_V ox d M q lv (.int (if x < y then y else x) :: st) H o H') : am_V ox d M pc lv (.int y :: .int x :: st) H o H' := by
  subst hq
  intro l p e R s m args below meth c dC dI τ B0 ρ0 nx0 n0 z0 C ρ hp locs cells slots ls S
  have hcc := S.2.2.2.1
  have hzz := S.2.2.2.2.1
  have hRc := C.2.2.2.2.2.2.2.2.2.2.2.2.1
  have hRz := C.2.2.2.2.2.2.2.2.2.2.2.2.2.1
  have hRf := C.2.2.2.2.2.2.2.2.2.2.1
  have hRl := C.2.2.2.2.2.2.2.2.2.2.2.1
  exact va_mmax C.1 C.2.1 (by rw [C.2.2.1]; exact S.2.2.2.2.2.1.symm) C.2.2.2.2.1 (C.2.2.2.2.2.1 _ hlk) (C.2.2.2.2.2.1 _ hst) (C.2.2.2.2.2.1 _ hini) (C.2.2.2.2.2.1 _ hcd) (by omega) (by rw [am_cat]; omega) (by omega) (by omega) hd (kk l p e R s m args below meth c dC dI τ B0 ρ0 nx0 n0 z0 C ρ hp locs cells slots ls S)
theorem am_mmin {idx : Nat} {x y : Int32} (hd : decode M.2.1 pc = .ok (.invokestatic idx, 3)) (hd1 : 1 ≤ d) (hlk : Cond.methodLink M.1 idx Lib.Math.min.name ∈ am_words) (hst : Cond.static Lib.Math.min.name ∈ am_words) (hini : Cond.initialized "java/lang/Math" ∈ am_words) (hcd : Cond.code Lib.Math.min.name Lib.Math.min.code 2 (some .int) ∈ am_words) (hc8 : (st.map fun v => v.category).sum ≤ 8) (hcn : am_nc H ≤ am_nc H') (hzn : am_nz H ≤ am_nz H') (hq : pc + 3 = q) (kk : am_V ox d M q lv (.int (if y < x then y else x) :: st) H o H') : am_V ox d M pc lv (.int y :: .int x :: st) H o H' := by
  subst hq
  intro l p e R s m args below meth c dC dI τ B0 ρ0 nx0 n0 z0 C ρ hp locs cells slots ls S
  have hcc := S.2.2.2.1
  have hzz := S.2.2.2.2.1
  have hRc := C.2.2.2.2.2.2.2.2.2.2.2.2.1
  have hRz := C.2.2.2.2.2.2.2.2.2.2.2.2.2.1
  have hRf := C.2.2.2.2.2.2.2.2.2.2.1
  have hRl := C.2.2.2.2.2.2.2.2.2.2.2.1
  exact va_mmin C.1 C.2.1 (by rw [C.2.2.1]; exact S.2.2.2.2.2.1.symm) C.2.2.2.2.1 (C.2.2.2.2.2.1 _ hlk) (C.2.2.2.2.2.1 _ hst) (C.2.2.2.2.2.1 _ hini) (C.2.2.2.2.2.1 _ hcd) (by omega) (by rw [am_cat]; omega) (by omega) (by omega) hd (kk l p e R s m args below meth c dC dI τ B0 ρ0 nx0 n0 z0 C ρ hp locs cells slots ls S)
/-- System.arraycopy over int[] -/
theorem am_copyi {idx a a0 n n0' : Nat} {sp dp cn : Int32} (hd : decode M.2.1 pc = .ok (.invokestatic idx, 3)) (hd1 : 1 ≤ d) (hlk : Cond.methodLink M.1 idx arraycopyName ∈ am_words) (hnat : Cond.native arraycopyName ∈ am_words) (hst : Cond.static arraycopyName ∈ am_words) (hini : Cond.initialized "java/lang/System" ∈ am_words) (hs0 : am_sh H a0 = (100, n0')) (hs : am_sh H a = (100, n)) (ha0 : a0 < am_nx H) (ha : a < am_nx H) (h1 : ¬ sp < 0) (h2 : ¬ dp < 0) (h3 : ¬ cn < 0) (h4 : sp.toNatClampNeg + cn.toNatClampNeg ≤ n0') (h5 : dp.toNatClampNeg + cn.toNatClampNeg ≤ n) (hc8 : (st.map fun v => v.category).sum ≤ 8) (hq : pc + 3 = q) (kk : am_V ox d M q lv st (am_sf H a (va_cpy (am_gi H a0) (am_gi H a) sp.toNatClampNeg dp.toNatClampNeg cn.toNatClampNeg)) o H') : am_V ox d M pc lv (.int cn :: .int dp :: .ref a :: .int sp :: .ref a0 :: st) H o H' := by
  subst hq
  intro l p e R s m args below meth c dC dI τ B0 ρ0 nx0 n0 z0 C ρ hp locs cells slots ls S
  have hRf := C.2.2.2.2.2.2.2.2.2.2.1
  have hRl := C.2.2.2.2.2.2.2.2.2.2.2.1
  have hcell := am_ws_at (τ := τ) (ρ := ρ) ha
  rw [am_cell_i hs] at hcell
  have hcell0 := am_ws_at (τ := τ) (ρ := ρ) ha0
  rw [am_cell_i hs0] at hcell0
  have hnw : nativeFrameWords "java/lang/System" "arraycopy" 5 + 11 ≤ 100 := by decide +kernel
  refine va_copyi (D := (dC, dI)) (ty := .int) C.1 C.2.1 (by rw [C.2.2.1]; exact S.2.2.2.2.2.1.symm) C.2.2.2.2.1 (C.2.2.2.2.2.1 _ hlk) (C.2.2.2.2.2.1 _ hnat) (C.2.2.2.2.2.1 _ hst) (C.2.2.2.2.2.1 _ hini) C.2.2.2.2.2.2.2.1 S.2.1.1 S.2.1.2.1 S.2.2.1 a0 a 0 0 hcell0 hcell (am_tys_at rfl) (am_tys_at rfl) rfl h1 h2 h3 h4 h5 (fun _ _ => rfl) (by omega) (by rw [am_cat]; omega) hd (fun H1 locs1 hP1 hD1 hS1 => ?_)
  have e1 : am_cell τ ρ (am_sf H a (va_cpy (am_gi H a0) (am_gi H a) sp.toNatClampNeg dp.toNatClampNeg cn.toNatClampNeg)) a = .inl (τ 100, n, .inl (va_cpy (am_gi H a0) (am_gi H a) sp.toNatClampNeg dp.toNatClampNeg cn.toNatClampNeg)) := by
    rw [am_cell_i (H := (am_sf H a (va_cpy (am_gi H a0) (am_gi H a) sp.toNatClampNeg dp.toNatClampNeg cn.toNatClampNeg))) hs]
    congr 4
    funext y
    exact if_pos rfl
  rw [am_ws_set (H := H) (H2 := am_sf H a (va_cpy (am_gi H a0) (am_gi H a) sp.toNatClampNeg dp.toNatClampNeg cn.toNatClampNeg)) rfl e1 (fun b hb => am_cell_sf hb)] at hP1 hD1
  exact kk l p e R s m args below meth c dC dI τ B0 ρ0 nx0 n0 z0 C ρ H1 locs1 cells slots ls ⟨S.1, ⟨hP1, hD1, S.2.1.2.2.1, S.2.1.2.2.2.1, Nat.le_trans C.2.2.2.2.2.2.2.2.2.1 hS1.1⟩, hS1, S.2.2.2⟩
end AMT
end
section
/-! THE ABSTRACT MACHINE, part 8: the judgement am_E: from this frame the method comes to an end with P. -/
def am_E (ox : List (Nat × (Nat → Int32))) (d : Nat) (M : am_M) (pc : Nat) (lv : List (Nat × Value)) (st : List Value) (H : am_H) (P : Option Value ⊕ String → am_H → Prop) : Prop :=
  ∃ (o : Option Value ⊕ String) (H' : am_H), am_V ox d M pc lv st H o H' ∧ am_nc H ≤ am_nc H' ∧ am_nz H ≤ am_nz H' ∧ P o H'
def am_D (ox : List (Nat × (Nat → Int32))) (d : Nat) (y : MethodName) (M : am_M) (as : List Value) (H : am_H) (P : Option Value ⊕ String → am_H → Prop) : Prop :=
  ∃ (o : Option Value ⊕ String) (H' : am_H), am_C ox d y M as H o H' ∧ am_nc H ≤ am_nc H' ∧ am_nz H ≤ am_nz H' ∧ P o H'
section AME
variable {ox : List (Nat × (Nat → Int32))} {d : Nat} {M : am_M} {pc q : Nat} {lv : List (Nat × Value)} {st stk : List Value} {H : am_H} {P P1 : Option Value ⊕ String → am_H → Prop}
theorem am_E.mono (h : am_E ox d M pc lv st H P1) (hP : ∀ o H', P1 o H' → P o H') : am_E ox d M pc lv st H P := by
  obtain ⟨o, H', hV, hm1, hm2, hm3⟩ := h
  exact ⟨o, H', hV, hm1, hm2, hP o H' hm3⟩
theorem am_D.mono {y : MethodName} {as : List Value} (h : am_D ox d y M as H P1) (hP : ∀ o H', P1 o H' → P o H') : am_D ox d y M as H P := by
  obtain ⟨o, H', hV, hm1, hm2, hm3⟩ := h
  exact ⟨o, H', hV, hm1, hm2, hP o H' hm3⟩
theorem ae_enter {y : MethodName} {as : List Value} (hy : plainName y.cls = true) (hc : M.1 = y.cls) (hnm : M.2.2.2.2.1 = y.name) (htb : M.2.2.2.2.2 = []) (hls : (lg_sl as).length ≤ M.2.2.1) (h : am_E ox d M 0 (lv_args 0 as) [] H P) : am_D ox d y M as H P := by
  obtain ⟨o, H', hV, hm1, hm2, hm3⟩ := h
  exact ⟨o, H', am_enter hy hc hnm htb hls hm1 hm2 hV, hm1, hm2, hm3⟩
theorem ae_callS {y : MethodName} {Mc : am_M} {as : List Value} {idx n : Nat} (hd : decode M.2.1 pc = .ok (.invokestatic idx, 3)) (hC : am_D ox d y Mc as H P1) (hy : am_My y Mc n) (hlk : Cond.methodLink M.1 idx y ∈ am_words) (hs : Cond.static y ∈ am_words) (hn : as.length = n) (hst : stk = as.reverse ++ st) (hc8 : (st.map fun v => v.category).sum ≤ 8) (hq : pc + 3 = q) (hx : ∀ o H1, P1 o H1 → ∃ v, o = .inl v) (kk : ∀ v H1, P1 (.inl v) H1 → am_fine H H1 lv st ∧ am_E ox (d + 1) M q lv (v.toList ++ st) H1 P) : am_E ox (d + 1) M pc lv stk H P := by
  obtain ⟨o1, H1, hc, c1, c2, hp⟩ := hC
  obtain ⟨v, rfl⟩ := hx o1 H1 hp
  obtain ⟨hf, o, H', hV, hm1, hm2, hm3⟩ := kk v H1 hp
  exact ⟨o, H', am_callS hd hc hy hlk hs hn hst hc8 hf c1 c2 hm1 hm2 hq hV, Nat.le_trans c1 hm1, Nat.le_trans c2 hm2, hm3⟩
theorem ae_callV {y : MethodName} {Mc : am_M} {as : List Value} {idx n b ci N : Nat} {r : vw_C} (hd : decode M.2.1 pc = .ok (.invokevirtual idx, 3)) (hC : am_D ox d y Mc (.ref b :: as) H P1) (hy : am_My y Mc n) (hlk : Cond.methodLink M.1 idx y ∈ am_words) (hi : Cond.instanceMethod y ∈ am_words) (hse : Cond.selects r.1 y y ∈ am_words) (hr : vwCl[ci]? = some r) (h100 : ci < 100) (hs : am_sh H b = (ci, N)) (hb : b < am_nx H) (hn : as.length = n) (hst : stk = as.reverse ++ .ref b :: st) (hc8 : (st.map fun v => v.category).sum ≤ 8) (hq : pc + 3 = q) (hx : ∀ o H1, P1 o H1 → ∃ v, o = .inl v) (kk : ∀ v H1, P1 (.inl v) H1 → am_fine H H1 lv st ∧ am_E ox (d + 1) M q lv (v.toList ++ st) H1 P) : am_E ox (d + 1) M pc lv stk H P := by
  obtain ⟨o1, H1, hc, c1, c2, hp⟩ := hC
  obtain ⟨v, rfl⟩ := hx o1 H1 hp
  obtain ⟨hf, o, H', hV, hm1, hm2, hm3⟩ := kk v H1 hp
  exact ⟨o, H', am_callV hd hc hy hlk hi hse hr h100 hs hb hn hst hc8 hf c1 c2 hm1 hm2 hq hV, Nat.le_trans c1 hm1, Nat.le_trans c2 hm2, hm3⟩
theorem ae_callI {y : MethodName} {Mc : am_M} {as : List Value} {idx n b : Nat} (hd : decode M.2.1 pc = .ok (.invokespecial idx, 3)) (hC : am_D ox d y Mc (.ref b :: as) H P1) (hy : am_My y Mc n) (hret : Mc.2.2.2.1 = none) (hy1 : y.name = "<init>") (hlk : Cond.methodLink M.1 idx y ∈ am_words) (hi : Cond.instanceMethod y ∈ am_words) (hn : as.length = n) (hst : stk = as.reverse ++ .ref b :: st) (hc8 : (st.map fun v => v.category).sum ≤ 8) (hq : pc + 3 = q) (hx : ∀ o H1, P1 o H1 → o = .inl none) (kk : ∀ H1, P1 (.inl none) H1 → am_fine H H1 lv st ∧ am_E ox (d + 1) M q lv st H1 P) : am_E ox (d + 1) M pc lv stk H P := by
  obtain ⟨o1, H1, hc, c1, c2, hp⟩ := hC
  obtain rfl := hx o1 H1 hp
  obtain ⟨hf, o, H', hV, hm1, hm2, hm3⟩ := kk H1 hp
  exact ⟨o, H', am_callI hd hc hy hret hy1 hlk hi hn hst hc8 hf c1 c2 hm1 hm2 hq hV, Nat.le_trans c1 hm1, Nat.le_trans c2 hm2, hm3⟩
theorem ae_iconst {n : Int} {v : Int32} (hd : decode M.2.1 pc = .ok (.iconst n, 1)) (hv : Int32.ofInt n = v) (hq : pc + 1 = q) (k : am_E ox d M q lv (.int v :: st) H P) : am_E ox d M pc lv st H P := by
  obtain ⟨o, H', hV, hm1, hm2, hm3⟩ := k
  exact ⟨o, H', am_iconst hd hv hq hV, hm1, hm2, hm3⟩
theorem ae_bipush {n : Int} {v : Int32} (hd : decode M.2.1 pc = .ok (.bipush n, 2)) (hv : (Int8.ofInt n).toInt32 = v) (hq : pc + 2 = q) (k : am_E ox d M q lv (.int v :: st) H P) : am_E ox d M pc lv st H P := by
  obtain ⟨o, H', hV, hm1, hm2, hm3⟩ := k
  exact ⟨o, H', am_bipush hd hv hq hV, hm1, hm2, hm3⟩
theorem ae_sipush {n : Int} {v : Int32} (hd : decode M.2.1 pc = .ok (.sipush n, 3)) (hv : (Int16.ofInt n).toInt32 = v) (hq : pc + 3 = q) (k : am_E ox d M q lv (.int v :: st) H P) : am_E ox d M pc lv st H P := by
  obtain ⟨o, H', hV, hm1, hm2, hm3⟩ := k
  exact ⟨o, H', am_sipush hd hv hq hV, hm1, hm2, hm3⟩
theorem ae_ldc {n : Nat} {v : Int32} (hd : decode M.2.1 pc = .ok (.ldc n, 2)) (hv : Cond.constant M.1 n v ∈ am_words) (hq : pc + 2 = q) (k : am_E ox d M q lv (.int v :: st) H P) : am_E ox d M pc lv st H P := by
  obtain ⟨o, H', hV, hm1, hm2, hm3⟩ := k
  exact ⟨o, H', am_ldc hd hv hq hV, hm1, hm2, hm3⟩
theorem ae_iload_n {i : Nat} {x : Int32} {w : Fin 4} (hd : decode M.2.1 pc = .ok (.iload_n w, 1)) (hi : (w : Nat) = i) (hl : am_lk i lv = some (.int x)) (hq : pc + 1 = q) (k : am_E ox d M q lv (.int x :: st) H P) : am_E ox d M pc lv st H P := by
  obtain ⟨o, H', hV, hm1, hm2, hm3⟩ := k
  exact ⟨o, H', am_iload_n hd hi hl hq hV, hm1, hm2, hm3⟩
theorem ae_iload {i : Nat} {x : Int32} (hd : decode M.2.1 pc = .ok (.iload i, 2)) (hl : am_lk i lv = some (.int x)) (hq : pc + 2 = q) (k : am_E ox d M q lv (.int x :: st) H P) : am_E ox d M pc lv st H P := by
  obtain ⟨o, H', hV, hm1, hm2, hm3⟩ := k
  exact ⟨o, H', am_iload hd hl hq hV, hm1, hm2, hm3⟩
theorem ae_aload_n {i : Nat} {x : Nat} {w : Fin 4} (hd : decode M.2.1 pc = .ok (.aload_n w, 1)) (hi : (w : Nat) = i) (hl : am_lk i lv = some (.ref x)) (hq : pc + 1 = q) (k : am_E ox d M q lv (.ref x :: st) H P) : am_E ox d M pc lv st H P := by
  obtain ⟨o, H', hV, hm1, hm2, hm3⟩ := k
  exact ⟨o, H', am_aload_n hd hi hl hq hV, hm1, hm2, hm3⟩
theorem ae_aload {i : Nat} {x : Nat} (hd : decode M.2.1 pc = .ok (.aload i, 2)) (hl : am_lk i lv = some (.ref x)) (hq : pc + 2 = q) (k : am_E ox d M q lv (.ref x :: st) H P) : am_E ox d M pc lv st H P := by
  obtain ⟨o, H', hV, hm1, hm2, hm3⟩ := k
  exact ⟨o, H', am_aload hd hl hq hV, hm1, hm2, hm3⟩
theorem ae_iadd {x y : Int32} (hd : decode M.2.1 pc = .ok (.iadd, 1)) (hq : pc + 1 = q) (k : am_E ox d M q lv (.int (x + y) :: st) H P) : am_E ox d M pc lv (.int y :: .int x :: st) H P := by
  obtain ⟨o, H', hV, hm1, hm2, hm3⟩ := k
  exact ⟨o, H', am_iadd hd hq hV, hm1, hm2, hm3⟩
theorem ae_isub {x y : Int32} (hd : decode M.2.1 pc = .ok (.isub, 1)) (hq : pc + 1 = q) (k : am_E ox d M q lv (.int (x - y) :: st) H P) : am_E ox d M pc lv (.int y :: .int x :: st) H P := by
  obtain ⟨o, H', hV, hm1, hm2, hm3⟩ := k
  exact ⟨o, H', am_isub hd hq hV, hm1, hm2, hm3⟩
theorem ae_imul {x y : Int32} (hd : decode M.2.1 pc = .ok (.imul, 1)) (hq : pc + 1 = q) (k : am_E ox d M q lv (.int (x * y) :: st) H P) : am_E ox d M pc lv (.int y :: .int x :: st) H P := by
  obtain ⟨o, H', hV, hm1, hm2, hm3⟩ := k
  exact ⟨o, H', am_imul hd hq hV, hm1, hm2, hm3⟩
theorem ae_iand {x y : Int32} (hd : decode M.2.1 pc = .ok (.iand, 1)) (hq : pc + 1 = q) (k : am_E ox d M q lv (.int (x &&& y) :: st) H P) : am_E ox d M pc lv (.int y :: .int x :: st) H P := by
  obtain ⟨o, H', hV, hm1, hm2, hm3⟩ := k
  exact ⟨o, H', am_iand hd hq hV, hm1, hm2, hm3⟩
theorem ae_ior {x y : Int32} (hd : decode M.2.1 pc = .ok (.ior, 1)) (hq : pc + 1 = q) (k : am_E ox d M q lv (.int (x ||| y) :: st) H P) : am_E ox d M pc lv (.int y :: .int x :: st) H P := by
  obtain ⟨o, H', hV, hm1, hm2, hm3⟩ := k
  exact ⟨o, H', am_ior hd hq hV, hm1, hm2, hm3⟩
theorem ae_ixor {x y : Int32} (hd : decode M.2.1 pc = .ok (.ixor, 1)) (hq : pc + 1 = q) (k : am_E ox d M q lv (.int (x ^^^ y) :: st) H P) : am_E ox d M pc lv (.int y :: .int x :: st) H P := by
  obtain ⟨o, H', hV, hm1, hm2, hm3⟩ := k
  exact ⟨o, H', am_ixor hd hq hV, hm1, hm2, hm3⟩
theorem ae_idiv {x y : Int32} (hd : decode M.2.1 pc = .ok (.idiv, 1)) (hne : ¬ y = 0) (hq : pc + 1 = q) (k : am_E ox d M q lv (.int (x / y) :: st) H P) : am_E ox d M pc lv (.int y :: .int x :: st) H P := by
  obtain ⟨o, H', hV, hm1, hm2, hm3⟩ := k
  exact ⟨o, H', am_idiv hd hne hq hV, hm1, hm2, hm3⟩
theorem ae_irem {x y : Int32} (hd : decode M.2.1 pc = .ok (.irem, 1)) (hne : ¬ y = 0) (hq : pc + 1 = q) (k : am_E ox d M q lv (.int (x - x / y * y) :: st) H P) : am_E ox d M pc lv (.int y :: .int x :: st) H P := by
  obtain ⟨o, H', hV, hm1, hm2, hm3⟩ := k
  exact ⟨o, H', am_irem hd hne hq hV, hm1, hm2, hm3⟩
theorem ae_ineg {x : Int32} (hd : decode M.2.1 pc = .ok (.ineg, 1)) (hq : pc + 1 = q) (k : am_E ox d M q lv (.int (-x) :: st) H P) : am_E ox d M pc lv (.int x :: st) H P := by
  obtain ⟨o, H', hV, hm1, hm2, hm3⟩ := k
  exact ⟨o, H', am_ineg hd hq hV, hm1, hm2, hm3⟩
theorem ae_ishl {x y : Int32} (hd : decode M.2.1 pc = .ok (.ishl, 1)) (hq : pc + 1 = q) (k : am_E ox d M q lv (.int (x <<< (y &&& 31)) :: st) H P) : am_E ox d M pc lv (.int y :: .int x :: st) H P := by
  obtain ⟨o, H', hV, hm1, hm2, hm3⟩ := k
  exact ⟨o, H', am_ishl hd hq hV, hm1, hm2, hm3⟩
theorem ae_ishr {x y : Int32} (hd : decode M.2.1 pc = .ok (.ishr, 1)) (hq : pc + 1 = q) (k : am_E ox d M q lv (.int (x >>> (y &&& 31)) :: st) H P) : am_E ox d M pc lv (.int y :: .int x :: st) H P := by
  obtain ⟨o, H', hV, hm1, hm2, hm3⟩ := k
  exact ⟨o, H', am_ishr hd hq hV, hm1, hm2, hm3⟩
theorem ae_i2l {x : Int32} (hd : decode M.2.1 pc = .ok (.i2l, 1)) (hq : pc + 1 = q) (k : am_E ox d M q lv (.long x.toInt64 :: st) H P) : am_E ox d M pc lv (.int x :: st) H P := by
  obtain ⟨o, H', hV, hm1, hm2, hm3⟩ := k
  exact ⟨o, H', am_i2l hd hq hV, hm1, hm2, hm3⟩
theorem ae_lcmp {x y : Int64} (hd : decode M.2.1 pc = .ok (.lcmp, 1)) (hq : pc + 1 = q) (k : am_E ox d M q lv (.int (lg_cmp x y) :: st) H P) : am_E ox d M pc lv (.long y :: .long x :: st) H P := by
  obtain ⟨o, H', hV, hm1, hm2, hm3⟩ := k
  exact ⟨o, H', am_lcmp hd hq hV, hm1, hm2, hm3⟩
theorem ae_dup {a : Value} (hd : decode M.2.1 pc = .ok (.dup, 1)) (ha : a.category = 1) (hq : pc + 1 = q) (k : am_E ox d M q lv (a :: a :: st) H P) : am_E ox d M pc lv (a :: st) H P := by
  obtain ⟨o, H', hV, hm1, hm2, hm3⟩ := k
  exact ⟨o, H', am_dup hd ha hq hV, hm1, hm2, hm3⟩
theorem ae_pop {a : Value} (hd : decode M.2.1 pc = .ok (.pop, 1)) (ha : a.category = 1) (hq : pc + 1 = q) (k : am_E ox d M q lv st H P) : am_E ox d M pc lv (a :: st) H P := by
  obtain ⟨o, H', hV, hm1, hm2, hm3⟩ := k
  exact ⟨o, H', am_pop hd ha hq hV, hm1, hm2, hm3⟩
theorem ae_dup_x1 {a b : Value} (hd : decode M.2.1 pc = .ok (.dup_x1, 1)) (ha : a.category = 1) (hb : b.category = 1) (hq : pc + 1 = q) (k : am_E ox d M q lv (a :: b :: a :: st) H P) : am_E ox d M pc lv (a :: b :: st) H P := by
  obtain ⟨o, H', hV, hm1, hm2, hm3⟩ := k
  exact ⟨o, H', am_dup_x1 hd ha hb hq hV, hm1, hm2, hm3⟩
theorem ae_dup2 {a b : Value} (hd : decode M.2.1 pc = .ok (.dup2, 1)) (ha : a.category = 1) (hb : b.category = 1) (hq : pc + 1 = q) (k : am_E ox d M q lv (a :: b :: a :: b :: st) H P) : am_E ox d M pc lv (a :: b :: st) H P := by
  obtain ⟨o, H', hV, hm1, hm2, hm3⟩ := k
  exact ⟨o, H', am_dup2 hd ha hb hq hV, hm1, hm2, hm3⟩
theorem ae_goto {off : Int} (hd : decode M.2.1 pc = .ok (.goto off, 3)) (ht : (pc : Int) + off = (q : Int)) (k : am_E ox d M q lv st H P) : am_E ox d M pc lv st H P := by
  obtain ⟨o, H', hV, hm1, hm2, hm3⟩ := k
  exact ⟨o, H', am_goto hd ht hV, hm1, hm2, hm3⟩
theorem ae_if_eq {x : Int32} {off : Int} {t : Nat} (hd : decode M.2.1 pc = .ok (.ifCond .eq off, 3)) (ht : (pc : Int) + off = (t : Int)) (hq : pc + 3 = q) (kt : x = 0 → am_E ox d M t lv st H P) (kf : ¬ x = 0 → am_E ox d M q lv st H P) : am_E ox d M pc lv (.int x :: st) H P := by
  by_cases hc : x = 0
  · obtain ⟨o, H', hV, hm1, hm2, hm3⟩ := kt hc
    exact ⟨o, H', am_if_eq hd ht hq (fun _ => hV) (fun hn => absurd hc hn), hm1, hm2, hm3⟩
  · obtain ⟨o, H', hV, hm1, hm2, hm3⟩ := kf hc
    exact ⟨o, H', am_if_eq hd ht hq (fun hn => absurd hn hc) (fun _ => hV), hm1, hm2, hm3⟩
theorem ae_icmp_eq {x y : Int32} {off : Int} {t : Nat} (hd : decode M.2.1 pc = .ok (.if_icmp .eq off, 3)) (ht : (pc : Int) + off = (t : Int)) (hq : pc + 3 = q) (kt : x = y → am_E ox d M t lv st H P) (kf : ¬ x = y → am_E ox d M q lv st H P) : am_E ox d M pc lv (.int y :: .int x :: st) H P := by
  by_cases hc : x = y
  · obtain ⟨o, H', hV, hm1, hm2, hm3⟩ := kt hc
    exact ⟨o, H', am_icmp_eq hd ht hq (fun _ => hV) (fun hn => absurd hc hn), hm1, hm2, hm3⟩
  · obtain ⟨o, H', hV, hm1, hm2, hm3⟩ := kf hc
    exact ⟨o, H', am_icmp_eq hd ht hq (fun hn => absurd hn hc) (fun _ => hV), hm1, hm2, hm3⟩
theorem ae_if_ne {x : Int32} {off : Int} {t : Nat} (hd : decode M.2.1 pc = .ok (.ifCond .ne off, 3)) (ht : (pc : Int) + off = (t : Int)) (hq : pc + 3 = q) (kt : ¬ x = 0 → am_E ox d M t lv st H P) (kf : x = 0 → am_E ox d M q lv st H P) : am_E ox d M pc lv (.int x :: st) H P := by
  by_cases hc : ¬ x = 0
  · obtain ⟨o, H', hV, hm1, hm2, hm3⟩ := kt hc
    exact ⟨o, H', am_if_ne hd ht hq (fun _ => hV) (fun hn => absurd hn hc), hm1, hm2, hm3⟩
  · obtain ⟨o, H', hV, hm1, hm2, hm3⟩ := kf (Classical.not_not.mp hc)
    exact ⟨o, H', am_if_ne hd ht hq (fun hn => absurd hn hc) (fun _ => hV), hm1, hm2, hm3⟩
theorem ae_icmp_ne {x y : Int32} {off : Int} {t : Nat} (hd : decode M.2.1 pc = .ok (.if_icmp .ne off, 3)) (ht : (pc : Int) + off = (t : Int)) (hq : pc + 3 = q) (kt : ¬ x = y → am_E ox d M t lv st H P) (kf : x = y → am_E ox d M q lv st H P) : am_E ox d M pc lv (.int y :: .int x :: st) H P := by
  by_cases hc : ¬ x = y
  · obtain ⟨o, H', hV, hm1, hm2, hm3⟩ := kt hc
    exact ⟨o, H', am_icmp_ne hd ht hq (fun _ => hV) (fun hn => absurd hn hc), hm1, hm2, hm3⟩
  · obtain ⟨o, H', hV, hm1, hm2, hm3⟩ := kf (Classical.not_not.mp hc)
    exact ⟨o, H', am_icmp_ne hd ht hq (fun hn => absurd hn hc) (fun _ => hV), hm1, hm2, hm3⟩
theorem ae_if_lt {x : Int32} {off : Int} {t : Nat} (hd : decode M.2.1 pc = .ok (.ifCond .lt off, 3)) (ht : (pc : Int) + off = (t : Int)) (hq : pc + 3 = q) (kt : x < 0 → am_E ox d M t lv st H P) (kf : ¬ x < 0 → am_E ox d M q lv st H P) : am_E ox d M pc lv (.int x :: st) H P := by
  by_cases hc : x < 0
  · obtain ⟨o, H', hV, hm1, hm2, hm3⟩ := kt hc
    exact ⟨o, H', am_if_lt hd ht hq (fun _ => hV) (fun hn => absurd hc hn), hm1, hm2, hm3⟩
  · obtain ⟨o, H', hV, hm1, hm2, hm3⟩ := kf hc
    exact ⟨o, H', am_if_lt hd ht hq (fun hn => absurd hn hc) (fun _ => hV), hm1, hm2, hm3⟩
theorem ae_icmp_lt {x y : Int32} {off : Int} {t : Nat} (hd : decode M.2.1 pc = .ok (.if_icmp .lt off, 3)) (ht : (pc : Int) + off = (t : Int)) (hq : pc + 3 = q) (kt : x < y → am_E ox d M t lv st H P) (kf : ¬ x < y → am_E ox d M q lv st H P) : am_E ox d M pc lv (.int y :: .int x :: st) H P := by
  by_cases hc : x < y
  · obtain ⟨o, H', hV, hm1, hm2, hm3⟩ := kt hc
    exact ⟨o, H', am_icmp_lt hd ht hq (fun _ => hV) (fun hn => absurd hc hn), hm1, hm2, hm3⟩
  · obtain ⟨o, H', hV, hm1, hm2, hm3⟩ := kf hc
    exact ⟨o, H', am_icmp_lt hd ht hq (fun hn => absurd hn hc) (fun _ => hV), hm1, hm2, hm3⟩
theorem ae_if_ge {x : Int32} {off : Int} {t : Nat} (hd : decode M.2.1 pc = .ok (.ifCond .ge off, 3)) (ht : (pc : Int) + off = (t : Int)) (hq : pc + 3 = q) (kt : 0 ≤ x → am_E ox d M t lv st H P) (kf : ¬ 0 ≤ x → am_E ox d M q lv st H P) : am_E ox d M pc lv (.int x :: st) H P := by
  by_cases hc : 0 ≤ x
  · obtain ⟨o, H', hV, hm1, hm2, hm3⟩ := kt hc
    exact ⟨o, H', am_if_ge hd ht hq (fun _ => hV) (fun hn => absurd hc hn), hm1, hm2, hm3⟩
  · obtain ⟨o, H', hV, hm1, hm2, hm3⟩ := kf hc
    exact ⟨o, H', am_if_ge hd ht hq (fun hn => absurd hn hc) (fun _ => hV), hm1, hm2, hm3⟩
theorem ae_icmp_ge {x y : Int32} {off : Int} {t : Nat} (hd : decode M.2.1 pc = .ok (.if_icmp .ge off, 3)) (ht : (pc : Int) + off = (t : Int)) (hq : pc + 3 = q) (kt : y ≤ x → am_E ox d M t lv st H P) (kf : ¬ y ≤ x → am_E ox d M q lv st H P) : am_E ox d M pc lv (.int y :: .int x :: st) H P := by
  by_cases hc : y ≤ x
  · obtain ⟨o, H', hV, hm1, hm2, hm3⟩ := kt hc
    exact ⟨o, H', am_icmp_ge hd ht hq (fun _ => hV) (fun hn => absurd hc hn), hm1, hm2, hm3⟩
  · obtain ⟨o, H', hV, hm1, hm2, hm3⟩ := kf hc
    exact ⟨o, H', am_icmp_ge hd ht hq (fun hn => absurd hn hc) (fun _ => hV), hm1, hm2, hm3⟩
theorem ae_if_gt {x : Int32} {off : Int} {t : Nat} (hd : decode M.2.1 pc = .ok (.ifCond .gt off, 3)) (ht : (pc : Int) + off = (t : Int)) (hq : pc + 3 = q) (kt : 0 < x → am_E ox d M t lv st H P) (kf : ¬ 0 < x → am_E ox d M q lv st H P) : am_E ox d M pc lv (.int x :: st) H P := by
  by_cases hc : 0 < x
  · obtain ⟨o, H', hV, hm1, hm2, hm3⟩ := kt hc
    exact ⟨o, H', am_if_gt hd ht hq (fun _ => hV) (fun hn => absurd hc hn), hm1, hm2, hm3⟩
  · obtain ⟨o, H', hV, hm1, hm2, hm3⟩ := kf hc
    exact ⟨o, H', am_if_gt hd ht hq (fun hn => absurd hn hc) (fun _ => hV), hm1, hm2, hm3⟩
theorem ae_icmp_gt {x y : Int32} {off : Int} {t : Nat} (hd : decode M.2.1 pc = .ok (.if_icmp .gt off, 3)) (ht : (pc : Int) + off = (t : Int)) (hq : pc + 3 = q) (kt : y < x → am_E ox d M t lv st H P) (kf : ¬ y < x → am_E ox d M q lv st H P) : am_E ox d M pc lv (.int y :: .int x :: st) H P := by
  by_cases hc : y < x
  · obtain ⟨o, H', hV, hm1, hm2, hm3⟩ := kt hc
    exact ⟨o, H', am_icmp_gt hd ht hq (fun _ => hV) (fun hn => absurd hc hn), hm1, hm2, hm3⟩
  · obtain ⟨o, H', hV, hm1, hm2, hm3⟩ := kf hc
    exact ⟨o, H', am_icmp_gt hd ht hq (fun hn => absurd hn hc) (fun _ => hV), hm1, hm2, hm3⟩
theorem ae_if_le {x : Int32} {off : Int} {t : Nat} (hd : decode M.2.1 pc = .ok (.ifCond .le off, 3)) (ht : (pc : Int) + off = (t : Int)) (hq : pc + 3 = q) (kt : x ≤ 0 → am_E ox d M t lv st H P) (kf : ¬ x ≤ 0 → am_E ox d M q lv st H P) : am_E ox d M pc lv (.int x :: st) H P := by
  by_cases hc : x ≤ 0
  · obtain ⟨o, H', hV, hm1, hm2, hm3⟩ := kt hc
    exact ⟨o, H', am_if_le hd ht hq (fun _ => hV) (fun hn => absurd hc hn), hm1, hm2, hm3⟩
  · obtain ⟨o, H', hV, hm1, hm2, hm3⟩ := kf hc
    exact ⟨o, H', am_if_le hd ht hq (fun hn => absurd hn hc) (fun _ => hV), hm1, hm2, hm3⟩
theorem ae_icmp_le {x y : Int32} {off : Int} {t : Nat} (hd : decode M.2.1 pc = .ok (.if_icmp .le off, 3)) (ht : (pc : Int) + off = (t : Int)) (hq : pc + 3 = q) (kt : x ≤ y → am_E ox d M t lv st H P) (kf : ¬ x ≤ y → am_E ox d M q lv st H P) : am_E ox d M pc lv (.int y :: .int x :: st) H P := by
  by_cases hc : x ≤ y
  · obtain ⟨o, H', hV, hm1, hm2, hm3⟩ := kt hc
    exact ⟨o, H', am_icmp_le hd ht hq (fun _ => hV) (fun hn => absurd hc hn), hm1, hm2, hm3⟩
  · obtain ⟨o, H', hV, hm1, hm2, hm3⟩ := kf hc
    exact ⟨o, H', am_icmp_le hd ht hq (fun hn => absurd hn hc) (fun _ => hV), hm1, hm2, hm3⟩
theorem ae_istore_n {i : Nat} {x : Int32} {w : Fin 4} {lv' : List (Nat × Value)} (hd : decode M.2.1 pc = .ok (.istore_n w, 1)) (hi : (w : Nat) = i) (hn : i < M.2.2.1) (hl : am_sv i (.int x) lv = lv') (hq : pc + 1 = q) (k : am_E ox d M q lv' st H P) : am_E ox d M pc lv (.int x :: st) H P := by
  obtain ⟨o, H', hV, hm1, hm2, hm3⟩ := k
  exact ⟨o, H', am_istore_n hd hi hn hl hq hV, hm1, hm2, hm3⟩
theorem ae_istore {i : Nat} {x : Int32} {lv' : List (Nat × Value)} (hd : decode M.2.1 pc = .ok (.istore i, 2)) (hn : i < M.2.2.1) (hl : am_sv i (.int x) lv = lv') (hq : pc + 2 = q) (k : am_E ox d M q lv' st H P) : am_E ox d M pc lv (.int x :: st) H P := by
  obtain ⟨o, H', hV, hm1, hm2, hm3⟩ := k
  exact ⟨o, H', am_istore hd hn hl hq hV, hm1, hm2, hm3⟩
theorem ae_astore_n {i : Nat} {x : Nat} {w : Fin 4} {lv' : List (Nat × Value)} (hd : decode M.2.1 pc = .ok (.astore_n w, 1)) (hi : (w : Nat) = i) (hn : i < M.2.2.1) (hl : am_sv i (.ref x) lv = lv') (hq : pc + 1 = q) (k : am_E ox d M q lv' st H P) : am_E ox d M pc lv (.ref x :: st) H P := by
  obtain ⟨o, H', hV, hm1, hm2, hm3⟩ := k
  exact ⟨o, H', am_astore_n hd hi hn hl hq hV, hm1, hm2, hm3⟩
theorem ae_astore {i : Nat} {x : Nat} {lv' : List (Nat × Value)} (hd : decode M.2.1 pc = .ok (.astore i, 2)) (hn : i < M.2.2.1) (hl : am_sv i (.ref x) lv = lv') (hq : pc + 2 = q) (k : am_E ox d M q lv' st H P) : am_E ox d M pc lv (.ref x :: st) H P := by
  obtain ⟨o, H', hV, hm1, hm2, hm3⟩ := k
  exact ⟨o, H', am_astore hd hn hl hq hV, hm1, hm2, hm3⟩
theorem ae_iinc {i : Nat} {n : Int} {x v : Int32} {lv' : List (Nat × Value)} (hd : decode M.2.1 pc = .ok (.iinc i n, 3)) (hx : am_lk i lv = some (.int x)) (hv : x + Int32.ofInt n = v) (hn : i < M.2.2.1) (hl : am_sv i (.int v) lv = lv') (hq : pc + 3 = q) (k : am_E ox d M q lv' st H P) : am_E ox d M pc lv st H P := by
  obtain ⟨o, H', hV, hm1, hm2, hm3⟩ := k
  exact ⟨o, H', am_iinc hd hx hv hn hl hq hV, hm1, hm2, hm3⟩
theorem ae_tableIn {dflt lo hi : Int} {offs : Array Int} {len : Nat} {x : Int32} {off : Int} (hd : decode M.2.1 pc = .ok (.tableswitch dflt lo hi offs, len)) (h1 : ¬ x.toInt < lo) (h2 : ¬ hi < x.toInt) (ho : offs[(x.toInt - lo).toNat]? = some off) (ht : (pc : Int) + off = (q : Int)) (k : am_E ox d M q lv st H P) : am_E ox d M pc lv (.int x :: st) H P := by
  obtain ⟨o, H', hV, hm1, hm2, hm3⟩ := k
  exact ⟨o, H', am_tableIn hd h1 h2 ho ht hV, hm1, hm2, hm3⟩
theorem ae_tableOut {dflt lo hi : Int} {offs : Array Int} {len : Nat} {x : Int32} (hd : decode M.2.1 pc = .ok (.tableswitch dflt lo hi offs, len)) (h : x.toInt < lo ∨ hi < x.toInt) (ht : (pc : Int) + dflt = (q : Int)) (k : am_E ox d M q lv st H P) : am_E ox d M pc lv (.int x :: st) H P := by
  obtain ⟨o, H', hV, hm1, hm2, hm3⟩ := k
  exact ⟨o, H', am_tableOut hd h ht hV, hm1, hm2, hm3⟩
theorem ae_lookup {dflt : Int} {ps : Array (Int × Int)} {len : Nat} {x : Int32} {off : Int} (hd : decode M.2.1 pc = .ok (.lookupswitch dflt ps, len)) (hsr : (ps.toList.zip (ps.toList.drop 1)).all (fun (a, next) => a.1 < next.1) = true) (ho : Op.lookupswitch.offset ps.toList dflt x.toInt = off) (ht : (pc : Int) + off = (q : Int)) (k : am_E ox d M q lv st H P) : am_E ox d M pc lv (.int x :: st) H P := by
  obtain ⟨o, H', hV, hm1, hm2, hm3⟩ := k
  exact ⟨o, H', am_lookup hd hsr ho ht hV, hm1, hm2, hm3⟩
theorem ae_getI {idx a ci k : Nat} {ty : FieldType} {fin : Bool} (hd : decode M.2.1 pc = .ok (.getfield idx, 3)) (hf : am_Fl M.1 idx ci k ty fin) (hr : am_isr ci k = false) (hs : am_sh H a = (ci, am_Nf ci)) (ha : a < am_nx H) (hq : pc + 3 = q) (kk : am_E ox d M q lv (.int (am_gi H a k) :: st) H P) : am_E ox d M pc lv (.ref a :: st) H P := by
  obtain ⟨o, H', hV, hm1, hm2, hm3⟩ := kk
  exact ⟨o, H', am_getI hd hf hr hs ha hq hV, hm1, hm2, hm3⟩
theorem ae_getR {idx a ci k b : Nat} {ty : FieldType} {fin : Bool} (hd : decode M.2.1 pc = .ok (.getfield idx, 3)) (hf : am_Fl M.1 idx ci k ty fin) (hr : am_isr ci k = true) (hs : am_sh H a = (ci, am_Nf ci)) (ha : a < am_nx H) (hb : am_gr H a k = some b) (hq : pc + 3 = q) (kk : am_E ox d M q lv (.ref b :: st) H P) : am_E ox d M pc lv (.ref a :: st) H P := by
  obtain ⟨o, H', hV, hm1, hm2, hm3⟩ := kk
  exact ⟨o, H', am_getR hd hf hr hs ha hb hq hV, hm1, hm2, hm3⟩
theorem ae_putI {idx a ci k : Nat} {ty : FieldType} {v : Int32} (hd : decode M.2.1 pc = .ok (.putfield idx, 3)) (hf : am_Fl M.1 idx ci k ty false) (hr : am_isr ci k = false) (hn : narrow ty (.int v) = .int v) (hfit : fits ty (.int v) = true) (hs : am_sh H a = (ci, am_Nf ci)) (ha : a < am_nx H) (hq : pc + 3 = q) (kk : am_E ox d M q lv st (am_si H a k v) P) : am_E ox d M pc lv (.int v :: .ref a :: st) H P := by
  obtain ⟨o, H', hV, hm1, hm2, hm3⟩ := kk
  exact ⟨o, H', am_putI hd hf hr hn hfit hs ha hq hV, hm1, hm2, hm3⟩
theorem ae_putR {idx a ci k b : Nat} {ty : FieldType} (hd : decode M.2.1 pc = .ok (.putfield idx, 3)) (hf : am_Fl M.1 idx ci k ty false) (hr : am_isr ci k = true) (hn : ∀ x, narrow ty (.ref x) = .ref x) (hfit : ∀ x, fits ty (.ref x) = true) (hs : am_sh H a = (ci, am_Nf ci)) (ha : a < am_nx H) (hb : b < am_nx H) (hq : pc + 3 = q) (kk : am_E ox d M q lv st (am_sr H a k (some b)) P) : am_E ox d M pc lv (.ref b :: .ref a :: st) H P := by
  obtain ⟨o, H', hV, hm1, hm2, hm3⟩ := kk
  exact ⟨o, H', am_putR hd hf hr hn hfit hs ha hb hq hV, hm1, hm2, hm3⟩
theorem ae_putF {idx a ci k b : Nat} {ty : FieldType} (hd : decode M.2.1 pc = .ok (.putfield idx, 3)) (hf : am_Fl M.1 idx ci k ty true) (hr : am_isr ci k = true) (hi : M.2.2.2.2.1 = "<init>") (ho : ∀ r : vw_C, vwCl[ci]? = some r → (r.2.1 k).1 = M.1) (hn : ∀ x, narrow ty (.ref x) = .ref x) (hfit : ∀ x, fits ty (.ref x) = true) (hs : am_sh H a = (ci, am_Nf ci)) (ha : a < am_nx H) (hb : b < am_nx H) (hq : pc + 3 = q) (kk : am_E ox d M q lv st (am_sr H a k (some b)) P) : am_E ox d M pc lv (.ref b :: .ref a :: st) H P := by
  obtain ⟨o, H', hV, hm1, hm2, hm3⟩ := kk
  exact ⟨o, H', am_putF hd hf hr hi ho hn hfit hs ha hb hq hV, hm1, hm2, hm3⟩
theorem ae_putFI {idx a ci k : Nat} {ty : FieldType} {v : Int32} (hd : decode M.2.1 pc = .ok (.putfield idx, 3)) (hf : am_Fl M.1 idx ci k ty true) (hr : am_isr ci k = false) (hi : M.2.2.2.2.1 = "<init>") (ho : ∀ r : vw_C, vwCl[ci]? = some r → (r.2.1 k).1 = M.1) (hn : narrow ty (.int v) = .int v) (hfit : fits ty (.int v) = true) (hs : am_sh H a = (ci, am_Nf ci)) (ha : a < am_nx H) (hq : pc + 3 = q) (kk : am_E ox d M q lv st (am_si H a k v) P) : am_E ox d M pc lv (.int v :: .ref a :: st) H P := by
  obtain ⟨o, H', hV, hm1, hm2, hm3⟩ := kk
  exact ⟨o, H', am_putFI hd hf hr hi ho hn hfit hs ha hq hV, hm1, hm2, hm3⟩
theorem ae_iald {a n : Nat} {i : Int32} (hd : decode M.2.1 pc = .ok (.iaload, 1)) (hs : am_sh H a = (100, n)) (ha : a < am_nx H) (hin : vp_in i n) (hq : pc + 1 = q) (kk : am_E ox d M q lv (.int (am_gi H a i.toNatClampNeg) :: st) H P) : am_E ox d M pc lv (.int i :: .ref a :: st) H P := by
  obtain ⟨o, H', hV, hm1, hm2, hm3⟩ := kk
  exact ⟨o, H', am_iald hd hs ha hin hq hV, hm1, hm2, hm3⟩
theorem ae_zald {a n : Nat} {i : Int32} (hd : decode M.2.1 pc = .ok (.baload, 1)) (hs : am_sh H a = (101, n)) (ha : a < am_nx H) (hin : vp_in i n) (hq : pc + 1 = q) (kk : am_E ox d M q lv (.int (am_gi H a i.toNatClampNeg) :: st) H P) : am_E ox d M pc lv (.int i :: .ref a :: st) H P := by
  obtain ⟨o, H', hV, hm1, hm2, hm3⟩ := kk
  exact ⟨o, H', am_zald hd hs ha hin hq hV, hm1, hm2, hm3⟩
theorem ae_lald {a n : Nat} {i : Int32} (hd : decode M.2.1 pc = .ok (.laload, 1)) (hs : am_sh H a = (102, n)) (ha : a < am_nx H) (hin : vp_in i n) (hq : pc + 1 = q) (kk : am_E ox d M q lv (.long (am_gl H a i.toNatClampNeg) :: st) H P) : am_E ox d M pc lv (.int i :: .ref a :: st) H P := by
  obtain ⟨o, H', hV, hm1, hm2, hm3⟩ := kk
  exact ⟨o, H', am_lald hd hs ha hin hq hV, hm1, hm2, hm3⟩
theorem ae_aald {a n k t b : Nat} {Cn : String} {i : Int32} (hd : decode M.2.1 pc = .ok (.aaload, 1)) (hs : am_sh H a = (103 + k, n)) (ht : am_kinds[t]? = some (103 + k, .object Cn)) (ha : a < am_nx H) (hin : vp_in i n) (hb : am_gr H a i.toNatClampNeg = some b) (hq : pc + 1 = q) (kk : am_E ox d M q lv (.ref b :: st) H P) : am_E ox d M pc lv (.int i :: .ref a :: st) H P := by
  obtain ⟨o, H', hV, hm1, hm2, hm3⟩ := kk
  exact ⟨o, H', am_aald hd hs ht ha hin hb hq hV, hm1, hm2, hm3⟩
theorem ae_iast {a n : Nat} {i x : Int32} (hd : decode M.2.1 pc = .ok (.iastore, 1)) (hs : am_sh H a = (100, n)) (ha : a < am_nx H) (hin : vp_in i n) (hq : pc + 1 = q) (kk : am_E ox d M q lv st (am_si H a i.toNatClampNeg x) P) : am_E ox d M pc lv (.int x :: .int i :: .ref a :: st) H P := by
  obtain ⟨o, H', hV, hm1, hm2, hm3⟩ := kk
  exact ⟨o, H', am_iast hd hs ha hin hq hV, hm1, hm2, hm3⟩
theorem ae_zast {a n : Nat} {i x : Int32} (hd : decode M.2.1 pc = .ok (.bastore, 1)) (hs : am_sh H a = (101, n)) (ha : a < am_nx H) (hin : vp_in i n) (hx : vp_nar .boolean x = x) (hq : pc + 1 = q) (kk : am_E ox d M q lv st (am_si H a i.toNatClampNeg x) P) : am_E ox d M pc lv (.int x :: .int i :: .ref a :: st) H P := by
  obtain ⟨o, H', hV, hm1, hm2, hm3⟩ := kk
  exact ⟨o, H', am_zast hd hs ha hin hx hq hV, hm1, hm2, hm3⟩
theorem ae_last {a n : Nat} {i : Int32} {x : Int64} (hd : decode M.2.1 pc = .ok (.lastore, 1)) (hs : am_sh H a = (102, n)) (ha : a < am_nx H) (hin : vp_in i n) (hq : pc + 1 = q) (kk : am_E ox d M q lv st (am_sl H a i.toNatClampNeg x) P) : am_E ox d M pc lv (.long x :: .int i :: .ref a :: st) H P := by
  obtain ⟨o, H', hV, hm1, hm2, hm3⟩ := kk
  exact ⟨o, H', am_last hd hs ha hin hq hV, hm1, hm2, hm3⟩
theorem ae_aast {a n k t b N : Nat} {r : vw_C} {i : Int32} (hd : decode M.2.1 pc = .ok (.aastore, 1)) (hs : am_sh H a = (103 + k, n)) (hr : vwCl[k]? = some r) (h100 : k < 100) (ht : am_kinds[t]? = some (103 + k, .object r.1)) (ha : a < am_nx H) (hsb : am_sh H b = (k, N)) (hb : b < am_nx H) (hin : vp_in i n) (hq : pc + 1 = q) (kk : am_E ox d M q lv st (am_sr H a i.toNatClampNeg (some b)) P) : am_E ox d M pc lv (.ref b :: .int i :: .ref a :: st) H P := by
  obtain ⟨o, H', hV, hm1, hm2, hm3⟩ := kk
  exact ⟨o, H', am_aast hd hs hr h100 ht ha hsb hb hin hq hV, hm1, hm2, hm3⟩
theorem ae_alen {a k n t : Nat} {ty : FieldType} {v : Int32} (hd : decode M.2.1 pc = .ok (.arraylength, 1)) (hs : am_sh H a = (k, n)) (hk : 100 ≤ k) (ht : am_kinds[t]? = some (k, ty)) (ha : a < am_nx H) (hv : Int32.ofNat n = v) (hq : pc + 1 = q) (kk : am_E ox d M q lv (.int v :: st) H P) : am_E ox d M pc lv (.ref a :: st) H P := by
  obtain ⟨o, H', hV, hm1, hm2, hm3⟩ := kk
  exact ⟨o, H', am_alen hd hs hk ht ha hv hq hV, hm1, hm2, hm3⟩
theorem ae_new {idx ci : Nat} (hd : decode M.2.1 pc = .ok (.new idx, 3)) (hc : am_Cn M.1 idx ci) (hst : ∀ v ∈ st, am_ok (am_nx H) v) (hlv : ∀ x ∈ lv, am_ok (am_nx H) x.2) (h6 : am_nx H + 1 ≤ 1000000) (hq : pc + 3 = q) (kk : am_E ox d M q lv (.ref (am_nx H) :: st) (am_nw H ci (am_Nf ci)) P) : am_E ox d M pc lv st H P := by
  obtain ⟨o, H', hV, hm1, hm2, hm3⟩ := kk
  exact ⟨o, H', am_new hd hc hst hlv h6 hm1 hm2 hq hV, Nat.le_trans (Nat.le_succ _) hm1, Nat.le_trans (Nat.le_add_right _ _) hm2, hm3⟩
theorem ae_newI {n : Int32} {N : Nat} (hd : decode M.2.1 pc = .ok (.newarray .int, 2)) (hw : Cond.arrayClass .int ∈ am_words) (hn : ¬ n < 0) (hN : n.toNatClampNeg = N) (hby : N ≤ 100000) (hst : ∀ v ∈ st, am_ok (am_nx H) v) (hlv : ∀ x ∈ lv, am_ok (am_nx H) x.2) (h6 : am_nx H + 1 ≤ 1000000) (hq : pc + 2 = q) (kk : am_E ox d M q lv (.ref (am_nx H) :: st) (am_nw H 100 N) P) : am_E ox d M pc lv (.int n :: st) H P := by
  obtain ⟨o, H', hV, hm1, hm2, hm3⟩ := kk
  exact ⟨o, H', am_newI hd hw hn hN hby hst hlv h6 hm1 hm2 hq hV, Nat.le_trans (Nat.le_succ _) hm1, Nat.le_trans (Nat.le_add_right _ _) hm2, hm3⟩
theorem ae_newZ {n : Int32} {N : Nat} (hd : decode M.2.1 pc = .ok (.newarray .boolean, 2)) (hw : Cond.arrayClass .boolean ∈ am_words) (hn : ¬ n < 0) (hN : n.toNatClampNeg = N) (hby : N ≤ 100000) (hst : ∀ v ∈ st, am_ok (am_nx H) v) (hlv : ∀ x ∈ lv, am_ok (am_nx H) x.2) (h6 : am_nx H + 1 ≤ 1000000) (hq : pc + 2 = q) (kk : am_E ox d M q lv (.ref (am_nx H) :: st) (am_nw H 101 N) P) : am_E ox d M pc lv (.int n :: st) H P := by
  obtain ⟨o, H', hV, hm1, hm2, hm3⟩ := kk
  exact ⟨o, H', am_newZ hd hw hn hN hby hst hlv h6 hm1 hm2 hq hV, Nat.le_trans (Nat.le_succ _) hm1, Nat.le_trans (Nat.le_add_right _ _) hm2, hm3⟩
theorem ae_newL {n : Int32} {N : Nat} (hd : decode M.2.1 pc = .ok (.newarray .long, 2)) (hw : Cond.arrayClass .long ∈ am_words) (hn : ¬ n < 0) (hN : n.toNatClampNeg = N) (hby : N ≤ 100000) (hst : ∀ v ∈ st, am_ok (am_nx H) v) (hlv : ∀ x ∈ lv, am_ok (am_nx H) x.2) (h6 : am_nx H + 1 ≤ 1000000) (hq : pc + 2 = q) (kk : am_E ox d M q lv (.ref (am_nx H) :: st) (am_nw H 102 N) P) : am_E ox d M pc lv (.int n :: st) H P := by
  obtain ⟨o, H', hV, hm1, hm2, hm3⟩ := kk
  exact ⟨o, H', am_newL hd hw hn hN hby hst hlv h6 hm1 hm2 hq hV, Nat.le_trans (Nat.le_succ _) hm1, Nat.le_trans (Nat.le_add_right _ _) hm2, hm3⟩
theorem ae_newQ {idx k t : Nat} {Cn : String} {n : Int32} {N : Nat} (hd : decode M.2.1 pc = .ok (.anewarray idx, 3)) (hlk : Cond.classLink M.1 idx Cn ∈ am_words) (hov : ∀ (B0 : Nat) (ρ : Nat → Nat) (s : State), am_O ox B0 ρ s → va_AO Cn s) (ht : am_kinds[t]? = some (103 + k, .object Cn)) (hn : ¬ n < 0) (hN : n.toNatClampNeg = N) (hby : N ≤ 100000) (hst : ∀ v ∈ st, am_ok (am_nx H) v) (hlv : ∀ x ∈ lv, am_ok (am_nx H) x.2) (h6 : am_nx H + 1 ≤ 1000000) (hq : pc + 3 = q) (kk : am_E ox d M q lv (.ref (am_nx H) :: st) (am_nw H (103 + k) N) P) : am_E ox d M pc lv (.int n :: st) H P := by
  obtain ⟨o, H', hV, hm1, hm2, hm3⟩ := kk
  exact ⟨o, H', am_newQ hd hlk hov ht hn hN hby hst hlv h6 hm1 hm2 hq hV, Nat.le_trans (Nat.le_succ _) hm1, Nat.le_trans (Nat.le_add_right _ _) hm2, hm3⟩
theorem ae_objInit {idx a : Nat} (hd : decode M.2.1 pc = .ok (.invokespecial idx, 3)) (hd1 : 1 ≤ d) (h1 : Cond.methodLink M.1 idx Lib.objectInit ∈ am_words) (h2 : Cond.instanceMethod Lib.objectInit ∈ am_words) (h3 : Cond.code Lib.objectInit ⟨#[0xb1]⟩ 1 none ∈ am_words) (hc8 : (st.map fun v => v.category).sum ≤ 8) (hq : pc + 3 = q) (kk : am_E ox d M q lv st H P) : am_E ox d M pc lv (.ref a :: st) H P := by
  obtain ⟨o, H', hV, hm1, hm2, hm3⟩ := kk
  exact ⟨o, H', am_objInit hd hd1 h1 h2 h3 hc8 hq hV, hm1, hm2, hm3⟩
theorem ae_iret {v : Int32} {ty : FieldType} (hd : decode M.2.1 pc = .ok (.ireturn, 1)) (ht : M.2.2.2.1 = some ty) (hn : narrow ty (.int v) = .int v) (hP : P (.inl (some (.int v))) H) : am_E ox d M pc lv [.int v] H P := ⟨_, _, am_iret hd ht hn, Nat.le_refl _, Nat.le_refl _, hP⟩
theorem ae_aret {b : Nat} {ty : FieldType} (hd : decode M.2.1 pc = .ok (.areturn, 1)) (ht : M.2.2.2.1 = some ty) (hr : (∃ n, ty = .object n) ∨ ∃ t, ty = .array t) (hP : P (.inl (some (.ref b))) H) : am_E ox d M pc lv [.ref b] H P := ⟨_, _, am_aret hd ht hr, Nat.le_refl _, Nat.le_refl _, hP⟩
theorem ae_vret (hd : decode M.2.1 pc = .ok (.return_, 1)) (ht : M.2.2.2.1 = none) (hP : P (.inl none) H) : am_E ox d M pc lv [] H P := ⟨_, _, am_vret hd ht, Nat.le_refl _, Nat.le_refl _, hP⟩
theorem ae_sld {i : Nat} {r : Nat × (Nat → Int32)} {x : Int32} (hd : decode M.2.1 pc = .ok (.iaload, 1)) (ho : ox[i]? = some r) (hin : vp_in x r.1) (hq : pc + 1 = q) (kk : am_E ox d M q lv (.int (r.2 x.toNatClampNeg) :: st) H P) : am_E ox d M pc lv (.int x :: .ref (1000000 + i) :: st) H P := by
  obtain ⟨o, H', hV, hm1, hm2, hm3⟩ := kk
  exact ⟨o, H', am_sld hd ho hin hq hV, hm1, hm2, hm3⟩
theorem ae_slen {i : Nat} {r : Nat × (Nat → Int32)} (hd : decode M.2.1 pc = .ok (.arraylength, 1)) (ho : ox[i]? = some r) (hq : pc + 1 = q) (kk : am_E ox d M q lv (.int (nI r.1) :: st) H P) : am_E ox d M pc lv (.ref (1000000 + i) :: st) H P := by
  obtain ⟨o, H', hV, hm1, hm2, hm3⟩ := kk
  exact ⟨o, H', am_slen hd ho hq hV, hm1, hm2, hm3⟩
theorem ae_gets {Cn n ds : String} {i idx : Nat} (hd : decode M.2.1 pc = .ok (.getstatic idx, 3)) (hz : (Cn, n, ds, i) ∈ am_sts) (hlk : Cond.fieldLink M.1 idx Cn n ds ∈ am_words) (hq : pc + 3 = q) (kk : am_E ox d M q lv (.ref (1000000 + i) :: st) H P) : am_E ox d M pc lv st H P := by
  obtain ⟨o, H', hV, hm1, hm2, hm3⟩ := kk
  exact ⟨o, H', am_gets hd hz hlk hq hV, hm1, hm2, hm3⟩
theorem ae_mmax {idx : Nat} {x y : Int32} (hd : decode M.2.1 pc = .ok (.invokestatic idx, 3)) (hd1 : 1 ≤ d) (hlk : Cond.methodLink M.1 idx Lib.Math.max.name ∈ am_words) (hst : Cond.static Lib.Math.max.name ∈ am_words) (hini : Cond.initialized "java/lang/Math" ∈ am_words) (hcd : Cond.code Lib.Math.max.name Lib.Math.max.code 2 (some .int) ∈ am_words) (hc8 : (st.map fun v => v.category).sum ≤ 8) (hq : pc + 3 = q) (kk : am_E ox d M q lv (.int (if x < y then y else x) :: st) H P) : am_E ox d M pc lv (.int y :: .int x :: st) H P := by
  obtain ⟨o, H', hV, hm1, hm2, hm3⟩ := kk
  exact ⟨o, H', am_mmax hd hd1 hlk hst hini hcd hc8 hm1 hm2 hq hV, hm1, hm2, hm3⟩
theorem ae_mmin {idx : Nat} {x y : Int32} (hd : decode M.2.1 pc = .ok (.invokestatic idx, 3)) (hd1 : 1 ≤ d) (hlk : Cond.methodLink M.1 idx Lib.Math.min.name ∈ am_words) (hst : Cond.static Lib.Math.min.name ∈ am_words) (hini : Cond.initialized "java/lang/Math" ∈ am_words) (hcd : Cond.code Lib.Math.min.name Lib.Math.min.code 2 (some .int) ∈ am_words) (hc8 : (st.map fun v => v.category).sum ≤ 8) (hq : pc + 3 = q) (kk : am_E ox d M q lv (.int (if y < x then y else x) :: st) H P) : am_E ox d M pc lv (.int y :: .int x :: st) H P := by
  obtain ⟨o, H', hV, hm1, hm2, hm3⟩ := kk
  exact ⟨o, H', am_mmin hd hd1 hlk hst hini hcd hc8 hm1 hm2 hq hV, hm1, hm2, hm3⟩
theorem ae_copyi {idx a a0 n n0' : Nat} {sp dp cn : Int32} (hd : decode M.2.1 pc = .ok (.invokestatic idx, 3)) (hd1 : 1 ≤ d) (hlk : Cond.methodLink M.1 idx arraycopyName ∈ am_words) (hnat : Cond.native arraycopyName ∈ am_words) (hst : Cond.static arraycopyName ∈ am_words) (hini : Cond.initialized "java/lang/System" ∈ am_words) (hs0 : am_sh H a0 = (100, n0')) (hs : am_sh H a = (100, n)) (ha0 : a0 < am_nx H) (ha : a < am_nx H) (h1 : ¬ sp < 0) (h2 : ¬ dp < 0) (h3 : ¬ cn < 0) (h4 : sp.toNatClampNeg + cn.toNatClampNeg ≤ n0') (h5 : dp.toNatClampNeg + cn.toNatClampNeg ≤ n) (hc8 : (st.map fun v => v.category).sum ≤ 8) (hq : pc + 3 = q) (kk : am_E ox d M q lv st (am_sf H a (va_cpy (am_gi H a0) (am_gi H a) sp.toNatClampNeg dp.toNatClampNeg cn.toNatClampNeg)) P) : am_E ox d M pc lv (.int cn :: .int dp :: .ref a :: .int sp :: .ref a0 :: st) H P := by
  obtain ⟨o, H', hV, hm1, hm2, hm3⟩ := kk
  exact ⟨o, H', am_copyi hd hd1 hlk hnat hst hini hs0 hs ha0 ha h1 h2 h3 h4 h5 hc8 hq hV, hm1, hm2, hm3⟩
end AME
end
section
/-! EXCEPTIONS over the abstract machine: 'throw new E("text")' ends a method; a call that throws, caught where it stands by a handler that answers a number. -/
section AMX
variable {p : Program} {l : Launch} {e : Env} {R : Room} {s : State} {m : MethodId} {args : Array Value} {below : List Frame} {meth : Method} {c : Code} {T : State} {locs : List Loc} {cells slots : Nat}
/-- a walk begun anew where it stands: nothing written yet, k cells and n slots left of its room -/
theorem am_anew (X : Stand p l e R s m args below meth c T locs cells slots) (k n : Nat) (hk : cells + k ≤ R.cells) (hn : slots + n ≤ R.slots) :
    Stand p l e { frames := R.frames, cells := k, slots := n, locals := R.locals } ((T.setVm s.vm).setFrames (.invoking m args :: below)) m args below meth c T [] 0 0 := by
  obtain ⟨g₀, hg0⟩ := Option.isSome_iff_exists.mp (show (T.setVm s.vm).topJava?.isSome from X.here.top)
  obtain ⟨r, hr⟩ := State.topJava?_eq_some.mp hg0
  obtain ⟨th, hth, -⟩ := State.frames_cons hr
  have hF : ((T.setVm s.vm).setFrames (.invoking m args :: below)).frames = .invoking m args :: below := State.frames_setFrames _ (State.cur_lt_of_top (show (T.setVm s.vm).topJava?.isSome from X.here.top))
  have hlim : e.platform.stackLimits ((T.setVm s.vm).setFrames (.invoking m args :: below)).me = e.platform.stackLimits s.me := by
    rw [State.stackLimits_setFrames]; exact X.limits
  have hbyt : ((T.setVm s.vm).setFrames (.invoking m args :: below)).me.stackBytes = s.me.stackBytes := by
    rw [State.stackBytes_setFrames]; exact X.bytes
  have huse : ((T.setVm s.vm).setFrames (.invoking m args :: below)).localsInUse = s.localsInUse := by
    rw [State.localsInUse_invoking hF (meth := meth) (c := c) X.method X.code, State.localsInUse_invoking X.frames X.method X.code]
  have hnil : (T.heap.toList.drop T.heap.size).map (·.slots.size) = [] := by
    rw [List.drop_eq_nil_of_le (Nat.le_of_eq Array.length_toList)]; rfl
  have z1 := X.heapSize
  have z2 := X.used
  have hroom := X.room
  simp only [State.hasRoom, Bool.and_eq_true, decide_eq_true_eq] at hroom
  obtain ⟨⟨⟨⟨h1, h2, h3, h4, h5, h6⟩, h7⟩, h8⟩, h9⟩ := hroom
  rw [X.frames, List.length_cons] at h2 h3
  constructor
  case admits => exact X.admits
  case cas => exact X.cas
  case clock => exact X.clock
  case frames => exact hF
  case hears => exact X.hears
  case method => exact X.method
  case code => exact X.code
  case here => exact X.here
  case tail => exact X.tail
  case warmed => exact X.warmed
  case limits => rw [State.stackLimits_setFrames]; rfl
  case bytes => rw [State.stackBytes_setFrames]; rfl
  case room =>
    simp only [State.hasRoom, Bool.and_eq_true, decide_eq_true_eq, hF, huse, List.length_cons, hlim, hbyt]
    refine ⟨⟨⟨⟨by omega, by omega, by omega, by omega, by omega, h6⟩, ?_⟩, ?_⟩, X.book⟩
    · show T.heap.size + k ≤ e.platform.maxCells
      omega
    · show T.slotsUsed + n ≤ e.platform.maxSlots
      omega
  case same =>
    refine ⟨?_, Nat.le_refl _, Nat.le_refl _, ?_, ?_, fun a c9 h9 => ⟨c9, h9, rfl, rfl, fun _ _ => rfl⟩⟩
    · show T.setVm s.vm = { ((T.setVm s.vm).setFrames (.invoking m args :: below)).setFrames (T.setVm s.vm).frames with heap := T.heap, slotsUsed := T.slotsUsed }
      rw [State.setFrames_setFrames, State.setFrames_self hth]
      rfl
    · show T.slotsUsed = T.slotsUsed + ((T.heap.toList.drop T.heap.size).map (·.slots.size)).sum
      rw [hnil]; rfl
    · show ((T.heap.toList.drop T.heap.size).map (·.slots.size)).sum ≤ 0
      rw [hnil]; exact Nat.le_refl _
/-- cells that were there and are in no row of what was written stay -/
theorem am_stay {U : State} {k n : Nat} (h : s.sameButNew ({ U with vm := s.vm } : State) [] k n) : s.heap.size ≤ U.heap.size ∧ ∀ q : Nat, q < s.heap.size → U.heap[q]? = s.heap[q]? :=
  ⟨h.2.1, fun q hq => by rw [Array.getElem?_eq_getElem hq]; exact State.sameButNew.old_cell h (Array.getElem?_eq_getElem hq)⟩
end AMX
section AMY
variable {ox : List (Nat × (Nat → Int32))} {d : Nat} {M : am_M} {pc q : Nat} {lv : List (Nat × Value)} {st stk : List Value} {H H1 H' : am_H} {o : Option Value ⊕ String}
theorem am_P.old {dC : Nat → ClassId} {dI : Nat → Nat → Nat} {τ : Nat → ClassId} {B0 : Nat} {ρ : Nat → Nat} {hp hp1 : Heap} (h : am_P dC dI τ B0 ρ H hp) (hsz : hp.size ≤ hp1.size) (hk : ∀ a : Nat, a < hp.size → hp1[a]? = hp[a]?) : am_P dC dI τ B0 ρ H hp1 :=
  ⟨h.1.kept (fun k x hx => hk x.1 ((h.1 k x hx).lt)), h.2.1, h.2.2.1, h.2.2.2.1, Nat.le_trans h.2.2.2.2 hsz⟩
/-- which words a throw asks for -/
def am_tw (w : Cond) : Bool := decide (w ∈ am_words) || decide (w ∈ am_nst) || am_tsq.any (fun z => decide (w = .laysStatic z.1 z.2.1 z.2.2) || decide (w = .isRef (.static z.1 z.2.1 z.2.2)))
theorem am_tw_at {w : Cond} (hw : am_tw w = true) {B0 : Nat} {ρ : Nat → Nat} {s U : State} {args a' : Array Value} (hts : ∀ w ∈ am_words, w.before args s = true) (hW : s.WarmedH U.vm) (hO : am_O ox B0 ρ U) : w.before a' U = true := by
  simp only [am_tw, Bool.or_eq_true, decide_eq_true_eq, List.any_eq_true] at hw
  rcases hw with (hw | hw) | ⟨z, hz, hw | hw⟩
  · exact word_at hW (am_good w hw) (hts w hw)
  · exact va_Nw.use (am_nst_tab w hw) (hO.2.2.2.2.1 w hw)
  · rw [hw]; exact (hO.2.2.2.2.2.1 z hz).lays
  · rw [hw]; exact (hO.2.2.2.2.2.1 z hz).isRef
set_option maxHeartbeats 4000000 in
/-- throw new cls("text") ends the method -/
theorem am_throw {ik is ic : Nat} {cls text : String} {names : List String} (d0 : decode M.2.1 pc = .ok (.new ik, 3)) (d3 : decode M.2.1 (pc + 3) = .ok (.dup, 1)) (d4 : decode M.2.1 (pc + 4) = .ok (.ldc is, 2)) (d6 : decode M.2.1 (pc + 6) = .ok (.invokespecial ic, 3)) (d9 : decode M.2.1 (pc + 9) = .ok (.athrow, 1))
    (hcls : Bundle.fit cls = true) (hnames : ∀ n ∈ names, Bundle.fit n = true) (hk : Cond.classLink M.1 ik cls ∈ am_words) (hini : Cond.initialized cls ∈ am_words) (htx : (M.1, is, text) ∈ am_txs) (hat : (Bundle.ownAtoms M.1 ic cls names).all am_tw = true) (hnn : M.2.2.2.2.1 ≠ "") (htab : M.2.2.2.2.2 = []) (hnl : names.length + 4 ≤ d) (hc8 : (st.map fun v => v.category).sum ≤ 8) : am_V ox d M pc lv st H (.inr cls) (am_ga H 1 6) := by
  intro l p e R s m args below meth c dC dI τ B0 ρ0 nx0 n0 z0 C ρ hp locs cells slots ls S T hT X
  have hcc := S.2.2.2.1
  have hzz := S.2.2.2.2.1
  have hRc : am_nc H + 1 ≤ n0 + R.cells := C.2.2.2.2.2.2.2.2.2.2.2.2.1
  have hRz : am_nz H + 6 ≤ z0 + R.slots := C.2.2.2.2.2.2.2.2.2.2.2.2.2.1
  have hRf := C.2.2.2.2.2.2.2.2.2.2.1
  have hRl := C.2.2.2.2.2.2.2.2.2.2.2.1
  have htr : e.platform.stackTraces = false := (show e.platform.stackTraces = l.stackTraces by rw [X.admits.platform]).trans C.2.2.2.2.2.2.2.2.1
  have Y := am_anew X 1 6 (by omega) (by omega)
  obtain ⟨s', hs'⟩ : ∃ z, z = (T.setVm s.vm).setFrames (.invoking m args :: below) := ⟨_, rfl⟩
  rw [← hs'] at Y
  have hvm : s'.vm = s.vm := by rw [hs']; rfl
  have hhp : s'.heap = hp := by rw [hs']; exact hT
  have hW0 : s.WarmedH s'.vm := by rw [hvm]; exact State.WarmedH.refl s
  have hO : am_O ox B0 ρ s' := am_O.to (am_O.ext C.2.2.2.2.2.2.2.2.2.2.2.2.2.2.2.2 S.1.2.2) hW0 (fun x hx => by rw [hhp]; exact S.2.2.1.2.1 x (Nat.lt_of_lt_of_le hx C.2.2.2.2.2.2.2.2.2.1) (Nat.not_le.mpr hx))
  have hown' : s'.vm.findClass M.1 = some m.cls := by rw [hvm]; exact C.2.2.2.2.1
  have hwd : ∀ w ∈ am_words, w.before args s' = true := fun w hw => word_at hW0 (am_good w hw) (C.2.2.2.2.2.1 w hw)
  have hat' : ∀ w ∈ Bundle.ownAtoms M.1 ic cls names, w.before args s' = true := fun w hw => am_tw_at (List.all_eq_true.mp hat w hw) C.2.2.2.2.2.1 hW0 hO
  obtain ⟨sa, hsa1, hsa2⟩ := hO.2.2.1 _ htx
  have hs1 : (Cond.stringRef M.1 is text).before args s' = true := hsa1
  have hs2 : (Term.string M.1 is).eval args s' none [] s' = some (.ref sa) := hsa2
  have hb := C.2.1
  obtain ⟨vm₁, cX, kX, hfX, hkX, -, -, X₁, st1⟩ := Y.newCold C.1 (own := M.1) (C := cls) (index := ik) (n := 6) hown' (hwd _ hk) (hat' _ (by simp [Bundle.ownAtoms])) (hwd _ hini) (g := F0 m pc ls (st.map (am_cv ρ))) rfl (by rw [hb]; exact d0) (Nat.le_refl _) (Nat.le_refl _)
  generalize hT1 : (T.setVm vm₁).pushCell { cls := cX, slots := kX.instanceTypes.map defaultValue, vm := .none } = T1 at X₁ st1
  have hcA : T1.heap[T.heap.size]? = some (freshCell cX kX) := by rw [← hT1]; exact State.heap_pushCell_size _ _
  obtain ⟨U, hsteps, hrun, hend, hW, hsame, ce, hce, hO9⟩ := X₁.ctorThrowS C.1 htr (own := M.1) (cls := cls) (names := names) (ic := ic) hown' hcls hnames hat' (fun x hx => by cases hx) hfX hkX hcA (by rw [hhp, hT]; exact Nat.le_refl _) (msg := .ref sa) rfl
    (g := { method := m, pc := pc + 6, locals := ls, stack := .ref sa :: .ref T.heap.size :: .ref T.heap.size :: st.map (am_cv ρ), locked := none }) rfl (by rw [C.2.2.1]; exact S.2.2.2.2.2.1) rfl rfl (rest := st.map (am_cv ρ)) rfl (by rw [hb]; exact d6) (by rw [hb]; exact d9)
    (fun x hx => by rw [C.2.2.2.2.2.2.2.2.2.2.2.2.2.2.2.1 hnn, htab] at hx; cases hx) (show names.length + 3 < R.frames by omega) (by
      show 2 * 0 + (1 + ((st.map (am_cv ρ)).map fun v => v.category).sum) + (13 * (names.length + 1) + 42) ≤ R.locals
      rw [am_cat]; omega) C.2.2.2.2.2.2.1
  obtain ⟨f1, f2⟩ := am_stay hsame
  rw [hhp] at f1 f2
  refine ⟨U, ?_, .threw T.heap.size, hrun, hend, Or.inr ⟨T.heap.size, rfl, cls, ce, ⟨⟨⟨ρ, rfl, S.1, (am_P.old S.2.1 f1 f2 : am_P dC dI τ B0 ρ H U.heap)⟩, Nat.le_trans S.2.2.1.1 f1, fun x hx hA => (f2 x (Nat.lt_of_lt_of_le hx S.2.2.1.1)).trans (S.2.2.1.2.1 x hx hA)⟩, hce, hO9.vm, by have h9 := hO9.cls; rw [hvm] at h9; exact h9⟩, locs, State.WarmedH.trans hW0 hW, ?_, S.2.2.1.2.2⟩⟩
  · refine st1 _ ?_
    show Steps p.tables e below (T1.setTop { method := m, pc := pc + 3, locals := ls, stack := .ref T.heap.size :: st.map (am_cv ρ), locked := none }) _
    have d3' : decode c.code (pc + 3) = .ok (.dup, 1) := by rw [hb]; exact d3
    jvm_step X₁.here [X₁.here.top, C.1, d3', Value.category]
    exact X₁.ldcString C.1 (own := M.1) (text := text) (index := is) (a := sa) hown' hs1 hs2 (g := { method := m, pc := pc + 4, locals := ls, stack := .ref T.heap.size :: .ref T.heap.size :: st.map (am_cv ρ), locked := none }) rfl (by rw [hb]; exact d4) _ hsteps
  · subst hs'
    obtain ⟨e1, e2⟩ := hsame
    rw [State.setFrames_setFrames] at e1
    have h2 : (T.setVm s.vm).sameButNew ({ U with vm := s.vm } : State) [] (0 + 1) (0 + 6) := ⟨e1, e2⟩
    have h3 := X.same.trans h2
    rw [List.append_nil] at h3
    refine h3.mono ?_ ?_
    · show cells + (0 + 1) ≤ am_nc H + 1 - n0; omega
    · show slots + (0 + 6) ≤ am_nz H + 6 - z0; omega
end AMY
end
section
/-! CATCHES over the abstract machine: methods with handlers; a call that throws, caught by a handler that answers a number. -/
section AMZ
variable {p : Program} {l : Launch} {e : Env} {R : Room} {s : State} {m : MethodId} {args : Array Value} {below : List Frame} {meth : Method} {c : Code} {U : State} {locs : List Loc} {cells slots : Nat}
set_option maxHeartbeats 4000000 in
/-- a callee that throws, run from a frame with its arguments taken off -/
theorem am_thrownBy {y : MethodName} {mk : MethodId} {methY : Method} {cY : Code} {ws : List Cond} {rm : Room} {Pc : Array Value → State → Prop} {Qc : Array Value → State → Outcome → State → Prop} {XC : String → State → State → Prop} {mc ms maxL : Nat} {free : Addr → Prop} {g : JFrame} {ig : Instr} {a : Array Value}
    (X : Stand p l e R s m args below meth c U locs cells slots) (hM : am_Met l y ws rm Pc Qc XC mc ms free) (hno : ∀ st v t, ¬ Qc a st (.returned v) t) (hno2 : ∀ st q t, ¬ Qc a st (.threw q) t)
    (hrm : rm.cells = mc ∧ rm.slots = ms ∧ rm.frames + 1 ≤ R.frames ∧ 8 + (maxL + 11) + rm.locals ≤ R.locals) (hroom : cells + mc ≤ R.cells ∧ slots + ms ≤ R.slots)
    (hws : ∀ w ∈ ws, w.before a U = true) (hn : U.methodNamed? y = some mk) (hmY : U.vm.method? mk = some methY) (hcY : methY.code = some cY) (hlY : cY.maxLocals = maxL) (hini : (Cond.initialized y.cls).before a U = true)
    (hg : g.method = m) (hsize : g.locals.size = c.maxLocals) (hdg : decode c.code g.pc = .ok (ig, 3)) (hW8 : 2 * g.monitorRoom + (g.stack.map fun v => v.category).sum ≤ 8) (hPc : Pc a (U.calling g mk a)) :
    ∃ (q : Addr) (t T' : State) (E : String) (ce : Cell) (L : List Loc), XC E (U.calling g mk a) t ∧ t.heap[q]? = some ce ∧ ce.vm = .none ∧ U.vm.findClass E = some ce.cls ∧ T'.heap = t.heap ∧ (∀ z ∈ L, free z.base) ∧ Stand p l e R s m args below meth c T' (locs ++ L) (cells + mc) (slots + ms) ∧
      Steps p.tables e below (doInvoke e (U.setTop g) [] mk a).1 ((T'.setTop g).pushFrame (.throwing q)) := by
  subst hg
  obtain ⟨hrc, hrs, hrf, hrl⟩ := hrm
  obtain ⟨kY, hkY, -⟩ := className_of_methodNamed hn
  have hiY : kY.init = .initialized := Cond.initialized_spec (findClass_of_methodNamed hn) hkY hini
  have happ : (headSpec ws rm).appliesLoose y e.platform (U.calling g mk a) = true :=
    Spec.appliesLoose_calling (g := g) X.here hdg hn hkY hiY (X.room_calling (g := g) (R' := (headSpec ws rm).room) hsize hmY hcY hrf (by rw [hlY]; show _ + (maxL + 11) + rm.locals ≤ _; omega) (by show cells + rm.cells ≤ _; rw [hrc]; exact hroom.1) (by show slots + rm.slots ≤ _; rw [hrs]; exact hroom.2)) (atoms_intro hws)
  obtain ⟨mid, hmid⟩ := X.here.above
  have hfr : (U.setTop g).frames = (.java g :: mid) ++ below := by rw [State.frames_setTop' g X.here.top, hmid]; rfl
  obtain ⟨o, s₂, hsteps, -, hend, hq⟩ := Steps.callFree hM p X.admits X.cas X.clock (acts := []) hfr happ hPc trivial
  rw [State.frames_setTop' g X.here.top] at hend
  obtain ⟨g₀, hg0⟩ := Option.isSome_iff_exists.mp X.here.top
  obtain ⟨r, hr⟩ := State.topJava?_eq_some.mp hg0
  obtain ⟨th, hth, -⟩ := State.frames_cons hr
  have hq' : am_QQ Qc XC mc ms free a (U.calling g mk a) o s₂ := hq
  rcases hq' with ⟨hqc, -⟩ | ⟨q, rfl, E, ce, ⟨hx, hce, hcv, hcl⟩, L, hW₂, hsm, hL⟩
  · cases o with
    | returned v => exact absurd hqc (hno _ _ _)
    | threw q => exact absurd hqc (hno2 _ _ _)
  · have hWU : U.WarmedH s₂.vm := hW₂
    obtain ⟨U2, hU2⟩ : ∃ z : State, z = ({ U with heap := s₂.heap, slotsUsed := s₂.slotsUsed } : State) := ⟨_, rfl⟩
    have hr2 : (U2.setVm s₂.vm).frames = .java g₀ :: r := by rw [hU2]; exact hr
    have hf2 : s₂.frames = .throwing q :: .java g :: U.frames.tail := hend
    obtain ⟨e1, e2⟩ := hsm
    have es : s₂ = ({ (U.calling g mk a).setFrames s₂.frames with heap := s₂.heap, slotsUsed := s₂.slotsUsed } : State).setVm s₂.vm := by
      have h9 : s₂ = ({ s₂ with vm := (U.calling g mk a).vm } : State).setVm s₂.vm := rfl
      rw [e1] at h9
      exact h9
    have hs₂ : s₂ = ((U2.setVm s₂.vm).setTop g).pushFrame (.throwing q) := by
      refine es.trans ?_
      rw [hf2, State.calling_eq X.here.top, State.setFrames_setFrames, State.pushFrame, State.frames_setTop _ hr2, State.setTop_of_frames _ hr2, State.setFrames_setFrames, hU2, hr]
      rfl
    have hsame : U.sameButNew U2 L mc ms := by
      rw [hU2]
      refine ⟨?_, e2⟩
      show ({ U with heap := s₂.heap, slotsUsed := s₂.slotsUsed } : State) = { U.setFrames U.frames with heap := s₂.heap, slotsUsed := s₂.slotsUsed }
      rw [State.setFrames_self hth]
    have hhere : At (U2.setVm s₂.vm) g.method c below := by rw [hU2]; exact (X.here.setHeapUsed s₂.heap s₂.slotsUsed).setVm hWU.alike
    refine ⟨q, s₂, U2.setVm s₂.vm, E, ce, L, hx, hce, hcv, hcl, by rw [hU2]; rfl, hL, ?_, by rw [← hs₂]; exact hsteps⟩
    refine ⟨X.admits, X.cas, X.clock, X.frames, X.room, X.hears, X.method, X.code, hhere, ?_, State.WarmedH.trans X.warmed hWU, ?_, ?_, ?_⟩
    · rw [hU2]; exact X.tail
    · rw [hU2]; exact X.limits
    · rw [hU2]; exact X.bytes
    · have h5 := X.same.trans (hsame.setVm s.vm)
      rw [hU2] at h5 ⊢
      exact h5
end AMZ
section AMV
variable {ox : List (Nat × (Nat → Int32))} {d : Nat} {M : am_M} {pc q : Nat} {lv : List (Nat × Value)} {st stk : List Value} {H H1 H' : am_H} {o : Option Value ⊕ String}
/-- a method with handlers: its table by its word -/
def am_tb (hh : List (Nat × Nat × Nat × Nat)) : List ExceptionTableEntry := hh.map (fun z => { startPc := z.1, endPc := z.2.1, handlerPc := z.2.2.1, catchType := z.2.2.2 })
theorem am_tb_eq {t : List ExceptionTableEntry} {hh : List (Nat × Nat × Nat × Nat)} (h : t.map (fun h => (h.startPc, h.endPc, h.handlerPc, h.catchType)) = hh) : t = am_tb hh := by
  subst h
  unfold am_tb
  rw [List.map_map]
  exact (List.map_id t).symm
def am_CW (ox : List (Nat × (Nat → Int32))) (d : Nat) (y : MethodName) (M : am_M) (hh : List (Nat × Nat × Nat × Nat)) (as : List Value) (H : am_H) (o : Option Value ⊕ String) (H' : am_H) : Prop :=
  ∀ (l : Launch), l.stackTraces = false → ∀ (dC : Nat → ClassId) (dI : Nat → Nat → Nat) (τ : Nat → ClassId) (B0 : Nat) (ρ : Nat → Nat),
    am_Met l y (Cond.codeWith y M.2.1 M.2.2.1 M.2.2.2.1 hh :: am_words) (am_rm d (am_nc H' - am_nc H) (am_nz H' - am_nz H)) (va_Pc (as.map (am_cv ρ)) (am_B ox dC dI τ B0 ρ H)) (am_Q dC dI τ B0 ρ (am_nx H) o H') (am_X dC dI τ B0 ρ (am_nx H) o H') (am_nc H' - am_nc H) (am_nz H' - am_nz H) (am_A B0)
set_option maxHeartbeats 4000000 in
theorem am_enterW {y : MethodName} {hh : List (Nat × Nat × Nat × Nat)} {as : List Value} (hy : plainName y.cls = true) (hc : M.1 = y.cls) (hnm : M.2.2.2.2.1 = y.name) (htb : M.2.2.2.2.2 = am_tb hh) (hls : (lg_sl as).length ≤ M.2.2.1) (h1 : am_nc H ≤ am_nc H') (h2 : am_nz H ≤ am_nz H') (h : am_V ox d M 0 (lv_args 0 as) [] H o H') : am_CW ox d y M hh as H o H' := by
  intro l hl dC dI τ B0 ρ
  refine MetFree.of_bodyS (code := M.2.1) (maxLocals := M.2.2.1) (ret := M.2.2.2.1) hy (fun args s m hp hn => ?_) (fun p e s m args below meth c s₁ B hml hv _ => ?_)
  · obtain ⟨m9, meth9, c9, hn9, q1, q2, q3, q4, -, q6, q7, -⟩ := Cond.codeWith_spec (atoms_spec (ws := Cond.codeWith y M.2.1 M.2.2.1 M.2.2.2.1 hh :: am_words) hp _ List.mem_cons_self)
    cases Option.some.inj (hn9.symm.trans hn)
    exact ⟨meth9, c9, q1, q2, q3, q4, q6, q7⟩
  · obtain ⟨rfl, hP, hK, hO⟩ := hv
    have hts := atoms_spec (ws := Cond.codeWith y M.2.1 M.2.2.1 M.2.2.2.1 hh :: am_words) B.pre
    obtain ⟨m9, meth9, c9, hn9, q1, q2, -, -, q5, -⟩ := Cond.codeWith_spec (hts _ List.mem_cons_self)
    cases Option.some.inj (hn9.symm.trans B.named)
    cases Option.some.inj (q1.symm.trans B.method)
    cases Option.some.inj (q2.symm.trans (Stand.of_body B).code)
    have hle := lv_entry (as.map (am_cv ρ)) (n := M.2.2.1) (by rw [am_sll]; exact hls)
    have hh0 : s₁.heap = s.heap := by rw [B.state]; rfl
    have K : W p l e (am_rm d (am_nc H' - am_nc H) (am_nz H' - am_nz H)) s m (as.map (am_cv ρ)).toArray below meth c s.heap [] 0 0 (am_MQ below (am_Q dC dI τ B0 ρ (am_nx H) o H') (am_X dC dI τ B0 ρ (am_nx H) o H') (as.map (am_cv ρ)).toArray s (am_nc H' - am_nc H) (am_nz H' - am_nz H) (am_A B0)) (entryFrame m (as.map (am_cv ρ)).toArray M.2.2.1) := by
      rw [lg_entry_eq]
      generalize (lg_sl (as.map (am_cv ρ)) ++ List.replicate (M.2.2.1 - (lg_sl (as.map (am_cv ρ))).length) Slot.unset).toArray = ls at hle ⊢
      rw [am_args] at hle
      refine h l p e (am_rm d (am_nc H' - am_nc H) (am_nz H' - am_nz H)) s m _ below meth c dC dI τ B0 ρ (am_nx H) (am_nc H) (am_nz H) ⟨B.exec, B.bytes, hml, B.returns, by rw [hc]; exact findClass_of_methodNamed B.named, fun w hw => hts w (List.mem_cons_of_mem _ hw), B.notSynchronized, hK, hl, hP.2.2.2.2, Nat.le_refl _, Nat.le_refl _, ?_, ?_, ?_, ?_, hO⟩ ρ s.heap [] 0 0 ls ⟨⟨Nat.le_refl _, fun _ => rfl, am_ext.rf⟩, hP, va_S.rf, Nat.zero_add _, Nat.zero_add _, hle⟩
      · show am_nc H' ≤ am_nc H + (am_nc H' - am_nc H); omega
      · show am_nz H' ≤ am_nz H + (am_nz H' - am_nz H); omega
      · intro _; rw [hnm]; exact (name_of_methodNamed B.named B.method).1
      · intro _; rw [htb]; exact am_tb_eq q5
    obtain ⟨t, a1, o1, b1, b2, b3⟩ := K s₁ hh0 (Stand.of_body B)
    exact ⟨t, o1, a1, b1, b2, b3⟩
theorem am_CW.met {y : MethodName} {hh : List (Nat × Nat × Nat × Nat)} {as : List Value} {v : Option Value} (h : am_CW ox d y M hh as H (.inl v) H1) (l : Launch) (hl : l.stackTraces = false) (dC : Nat → ClassId) (dI : Nat → Nat → Nat) (τ : Nat → ClassId) (B0 : Nat) (ρ : Nat → Nat) :
    Met l y (Cond.codeWith y M.2.1 M.2.2.1 M.2.2.2.1 hh :: am_words) (am_rm d (am_nc H1 - am_nc H) (am_nz H1 - am_nz H)) (va_Pc (as.map (am_cv ρ)) (am_B ox dC dI τ B0 ρ H)) (am_Q dC dI τ B0 ρ (am_nx H) (.inl v) H1) (am_nc H1 - am_nc H) (am_nz H1 - am_nz H) (am_A B0) := by
  refine MetFree.mono (h l hl dC dI τ B0 ρ) (fun _ _ h => h) (fun _ _ _ _ _ h => h) (fun a s o t _ hq => ?_)
  rcases hq with hq | ⟨q, -, E, ce, ⟨⟨⟨ρ', ho, -⟩, -⟩, -⟩, -⟩
  · exact hq
  · cases ho
set_option maxHeartbeats 4000000 in
/-- a static call of a method with handlers -/
theorem am_callSW {y : MethodName} {Mc : am_M} {hh : List (Nat × Nat × Nat × Nat)} {as : List Value} {v : Option Value} {idx n : Nat} (hd : decode M.2.1 pc = .ok (.invokestatic idx, 3)) (hC : am_CW ox d y Mc hh as H (.inl v) H1) (hcd : Cond.codeWith y Mc.2.1 Mc.2.2.1 Mc.2.2.2.1 hh ∈ am_words) (hini : Cond.initialized y.cls ∈ am_words) (hyd : y.cls ≠ "java/lang/invoke/MethodHandle" ∧ y.cls ≠ "java/lang/invoke/VarHandle" ∧ (parseMethodDescriptor y.desc).map (fun d => d.parameters.length) = some n) (h7 : Mc.2.2.1 ≤ 7) (hlk : Cond.methodLink M.1 idx y ∈ am_words) (hs : Cond.static y ∈ am_words) (hn : as.length = n) (hst : stk = as.reverse ++ st) (hc8 : (st.map fun v => v.category).sum ≤ 8) (hf : am_fine H H1 lv st) (hc : am_nc H ≤ am_nc H1) (hz : am_nz H ≤ am_nz H1) (hc2 : am_nc H1 ≤ am_nc H') (hz2 : am_nz H1 ≤ am_nz H') (hq : pc + 3 = q) (kk : am_V ox (d + 1) M q lv (v.toList ++ st) H1 o H') : am_V ox (d + 1) M pc lv stk H o H' := by
  subst hq
  subst hst
  intro l p e R s m args below meth c dC dI τ B0 ρ0 nx0 n0 z0 C ρ hp locs cells slots ls S
  have hRf := C.2.2.2.2.2.2.2.2.2.2.1
  have hRl := C.2.2.2.2.2.2.2.2.2.2.2.1
  have hp9 := am_pre (y := y) (Mc := Mc) (as := as) C S
  have hM := hC.met l C.2.2.2.2.2.2.2.2.1 dC dI τ B0 ρ
  have hws : ∀ w ∈ Cond.codeWith y Mc.2.1 Mc.2.2.1 Mc.2.2.2.1 hh :: am_words, ∀ (a' : Array Value) (U : State), s.WarmedH U.vm → w.before a' U = true := fun w hw a' U hW => by
    have hw' : w ∈ am_words := (List.mem_cons.mp hw).elim (fun h => by rw [h]; exact hcd) id
    exact word_at hW (am_good w hw') (C.2.2.2.2.2.1 w hw')
  have hK : Back l R p e below s args y 3 8 (PreOf R (am_nc H1 - am_nc H) (am_nz H1 - am_nz H) (va_Pc (as.map (am_cv ρ)) (am_B ox dC dI τ B0 ρ H))) (PostOf (am_Q dC dI τ B0 ρ (am_nx H) (.inl v) H1) (am_nc H1 - am_nc H) (am_nz H1 - am_nz H) (am_A B0)) :=
    va_backW (hh := hh) (bytes := Mc.2.1) (maxL := Mc.2.2.1) (ret := Mc.2.2.2.1) hM hp9.1 rfl rfl (show d + 1 ≤ R.frames by omega) (show 8 + (Mc.2.2.1 + 11) + (116 + 26 * d) ≤ R.locals by omega) hws List.mem_cons_self (fun a' U hW => word_at hW (am_good _ hini) (C.2.2.2.2.2.1 _ hini))
  have hroom := am_room (y := y) C S hc hz hc2 hz2
  refine am_cont C S hf hc hz (a := (as.map (am_cv ρ)).toArray) (fun T hT X => ?_) kk
  obtain ⟨mk, methM, cM, hnamed, hmethM, -, -, -, -, -, -, hsigM⟩ := Cond.codeWith_spec (C.2.2.2.2.2.1 _ hcd)
  have hstatic : methM.isStatic = true := Cond.static_spec hnamed hmethM (C.2.2.2.2.2.1 _ hs)
  obtain ⟨kP, hkP, -⟩ := className_of_methodNamed hnamed
  have hinitP : kP.init = .initialized := Cond.initialized_spec (findClass_of_methodNamed hnamed) hkP (C.2.2.2.2.2.1 _ hini)
  have hlen : (as.map (am_cv ρ)).length = methM.sig.parameters.length := by
    have h2 := hyd.2.2
    rw [hsigM] at h2
    rw [List.length_map, hn]
    exact (Option.some.inj h2).symm
  obtain ⟨vm₁, X₁, hstep₁⟩ := X.invokestatic C.1 C.2.2.2.2.1 (C.2.2.2.2.2.1 _ hlk) hnamed hmethM hstatic hkP hinitP ⟨hyd.1, hyd.2.1⟩ (g := F0 m pc ls ((as.reverse ++ st).map (am_cv ρ))) rfl (argsL := as.map (am_cv ρ)) (rest := st.map (am_cv ρ)) hlen (by simp) (by rw [C.2.1]; exact hd)
  obtain ⟨w, ⟨U', l2, c2, s2⟩, X', ⟨g', mk', t, L, e1, e2, hq, h1, hL, h2, h3⟩, hsteps⟩ := hK m meth c ⟨T.setVm vm₁, locs, cells, slots⟩ (F0 m pc ls (st.map (am_cv ρ))) (.invokestatic idx) mk (as.map (am_cv ρ)).toArray X₁ rfl (by rw [C.2.2.1]; exact S.2.2.2.2.2.1) (by rw [C.2.1]; exact hd) (by rw [am_cat]; show 2 * 0 + _ ≤ 8; omega) (X₁.named hnamed) ⟨hroom.1, hroom.2, hp9.2 (T.setVm vm₁) hT X₁.warmed⟩
  dsimp only [Pt.U, Pt.locs, Pt.cells, Pt.slots] at X' e1 e2 h1 h2 h3 hsteps
  subst h1; subst h2; subst h3
  exact ⟨w, (T.setVm vm₁).calling g' mk' (as.map (am_cv ρ)).toArray, t, U', L, hT, X', hL, e1, e2, hq, fun target h => hstep₁ _ fun acts => by rw [doInvoke_state]; exact hsteps.trans h⟩
set_option maxHeartbeats 4000000 in
/-- a call that throws, caught by a handler that stores the exception and answers a number -/
theorem am_callX {y : MethodName} {Mc : am_M} {as : List Value} {idx n b ci N : Nat} {r : vw_C} {E nm : String} {x : ExceptionTableEntry} {pre suf : List ExceptionTableEntry} {i hl : Nat} {kn : Int} {v : Int32} (hd : decode M.2.1 pc = .ok (.invokevirtual idx, 3)) (hC : am_C ox d y Mc (.ref b :: as) H (.inr E) H1) (hy : am_My y Mc n) (hlk : Cond.methodLink M.1 idx y ∈ am_words) (hi : Cond.instanceMethod y ∈ am_words) (hse : Cond.selects r.1 y y ∈ am_words) (hr : vwCl[ci]? = some r) (h100 : ci < 100) (hs : am_sh H b = (ci, N)) (hb : b < am_nx H) (hn : as.length = n) (hst : stk = as.reverse ++ .ref b :: st) (hc8 : (st.map fun v => v.category).sum ≤ 8) (hf : am_fine H H1 lv st) (hc : am_nc H ≤ am_nc H1) (hz : am_nz H ≤ am_nz H1)
    (hnn : M.2.2.2.2.1 ≠ "") (htab : M.2.2.2.2.2 = pre ++ x :: suf) (hx : covers x pc = true) (h0 : x.catchType ≠ 0) (hcl : Cond.classLink M.1 x.catchType nm ∈ am_words) (hca : Cond.castable E nm ∈ am_nst) (hps : ∀ z ∈ pre, z.catchType ≠ 0 ∧ ∃ nm' : String, Cond.classLink M.1 z.catchType nm' ∈ am_words ∧ (E, nm') ∈ am_ncs)
    (d1 : (∃ w : Fin 4, decode M.2.1 x.handlerPc = .ok (.astore_n w, 1) ∧ (w : Nat) = i ∧ hl = 1) ∨ (decode M.2.1 x.handlerPc = .ok (.astore i, 2) ∧ hl = 2)) (hi7 : i < M.2.2.1) (d2 : decode M.2.1 (x.handlerPc + hl) = .ok (.iconst kn, 1)) (hv : Int32.ofInt kn = v) (d3 : decode M.2.1 (x.handlerPc + hl + 1) = .ok (.ireturn, 1)) (hrt : M.2.2.2.1 = some .int) : am_V ox (d + 1) M pc lv stk H (.inl (some (.int v))) H1 := by
  subst hst
  intro l p e R s m args below meth c dC dI τ B0 ρ0 nx0 n0 z0 C ρ hp locs cells slots ls S T hT X
  obtain ⟨hcd, hini, hyd, h7⟩ := hy
  have hRf := C.2.2.2.2.2.2.2.2.2.2.1
  have hRl := C.2.2.2.2.2.2.2.2.2.2.2.1
  have hp9 := am_pre (y := y) (Mc := Mc) (as := .ref b :: as) C S
  have hcell := am_ws_at (τ := τ) (ρ := ρ) hb
  rw [am_cell_o hs h100] at hcell
  obtain ⟨cellB, hcB, hoB, hclB⟩ := va_recv C.2.2.2.2.2.2.2.1 S.2.1.1 hr hcell
  have hroom := am_room (y := y) C S hc hz (Nat.le_refl _) (Nat.le_refl _)
  obtain ⟨mk, methM, hnamed, hmethM, hstM, habM⟩ := Cond.instanceMethod_spec (C.2.2.2.2.2.1 _ hi)
  obtain ⟨methM', cM, hmethM', hcM, -, hlM, -, -, -, hsigM⟩ := Cond.code_spec hnamed (C.2.2.2.2.2.1 _ hcd)
  cases Option.some.inj (hmethM.symm.trans hmethM')
  obtain ⟨c2, r2, m2, q1, q2, q3, q4, kP, hkP, hkPi⟩ := Cond.selects_spec (C.2.2.2.2.2.1 _ hse)
  cases Option.some.inj (hclB.symm.trans q1)
  cases Option.some.inj ((State.methodFound?_of_named hnamed ⟨hyd.1, hyd.2.1⟩).symm.trans q2)
  cases Option.some.inj (hnamed.symm.trans q3)
  have hselP : selectMethod e.platform s.vm cellB.cls mk = .method mk := by rw [Launch.admits_selectMethod X.admits]; exact q4
  have hlen : (as.map (am_cv ρ)).length = methM.sig.parameters.length := by
    have h2 := hyd.2.2
    rw [hsigM] at h2
    rw [List.length_map, hn]
    exact (Option.some.inj h2).symm
  obtain ⟨vm₁, X₁, hstep₁⟩ := X.invokevirtual C.1 C.2.2.2.2.1 (C.2.2.2.2.2.1 _ hlk) hnamed hmethM hstM hkP hkPi ⟨hyd.1, hyd.2.1⟩ (a := ρ b) (cell := cellB) (by rw [hT]; exact hcB) (fun z h => by rw [h] at hoB; cases hoB) hselP hmethM habM hkP hkPi (g := F0 m pc ls ((as.reverse ++ .ref b :: st).map (am_cv ρ))) rfl (argsL := as.map (am_cv ρ)) (rest := st.map (am_cv ρ)) hlen (by simp [am_cv]) (by rw [C.2.1]; exact hd)
  have hWv : s.WarmedH vm₁ := X₁.warmed
  obtain ⟨methV, hmV⟩ : ∃ z, (T.setVm vm₁).vm.method? mk = some z := ⟨methM, (hWv.alike.method? mk).trans hmethM⟩
  have hmV' : methV = methM := Option.some.inj (hmV.symm.trans ((hWv.alike.method? mk).trans hmethM))
  subst hmV'
  obtain ⟨q, t, T', E', ce, L, ⟨⟨ρ', ho, hJ, hP⟩, hF⟩, hce, hcv, hcE, eh, hL, X', hgo⟩ := am_thrownBy (maxL := Mc.2.2.1) (ig := .invokevirtual idx) X₁ (hC l C.2.2.2.2.2.2.2.2.1 dC dI τ B0 ρ) (fun st v t h => by obtain ⟨⟨_, _, ho, -⟩, -⟩ := h; cases ho) (fun st q t h => by obtain ⟨⟨_, _, ho, -⟩, -⟩ := h; cases ho)
    ⟨rfl, rfl, show d + 1 ≤ R.frames by omega, show 8 + (Mc.2.2.1 + 11) + (116 + 26 * d) ≤ R.locals by omega⟩ hroom (a := (Value.ref (ρ b) :: as.map (am_cv ρ)).toArray) (fun w hw => by
      have hw' : w ∈ am_words := (List.mem_cons.mp hw).elim (fun h => by rw [h]; exact hcd) id
      exact word_at hWv (am_good w hw') (C.2.2.2.2.2.1 w hw')) (X₁.named hnamed) hmV hcM hlM (word_at hWv (am_good _ hini) (C.2.2.2.2.2.1 _ hini)) (g := F0 m pc ls (st.map (am_cv ρ))) rfl (by rw [C.2.2.1]; exact S.2.2.2.2.2.1) (by rw [C.2.1]; exact hd) (by rw [am_cat]; show 2 * 0 + _ ≤ 8; omega) (hp9.1 _ _ _ _ (hp9.2 (T.setVm vm₁) hT hWv))
  cases ho
  have hS1 := am_keep (st₀ := (T.setVm vm₁).calling (F0 m pc ls (st.map (am_cv ρ))) mk (Value.ref (ρ b) :: as.map (am_cv ρ)).toArray) hT eh S.2.2.1 hL hF
  obtain ⟨S', est⟩ := am_after S hf hc hz hJ (by rw [eh]; exact hP) hS1
  have hpl : e.platform.magicAccessors = ({} : Platform).magicAccessors := by rw [X.admits.platform]
  have hO := C.2.2.2.2.2.2.2.2.2.2.2.2.2.2.2.2
  have hcls : s.vm.findClass E = some ce.cls := by
    have h9 : vm₁.findClass E = some ce.cls := hcE
    rw [hWv.alike.findClass] at h9
    exact h9
  obtain ⟨c3, c4, hc3, hc4, hasg⟩ := Cond.castable_spec (va_Nw.use (A := args) (am_nst_tab _ hca) (hO.2.2.2.2.1 _ hca))
  cases Option.some.inj (hc3.symm.trans hcls)
  obtain ⟨c5, hc5, hcl5⟩ := Cond.classLink_spec C.2.2.2.2.1 (C.2.2.2.2.2.1 _ hcl) e.platform hpl
  cases Option.some.inj (hc4.symm.trans hc5)
  obtain ⟨vm', X2, st2⟩ := X'.thenCaughtThrough q (g := F0 m pc ls (st.map (am_cv ρ))) rfl hgo (cell := ce) (by rw [eh]; exact hce) (by rw [hcv]; rfl) (by obtain ⟨k9, h9, -⟩ := Vm.findClass_spec hcls; exact ⟨k9, h9⟩) pre x suf ((C.2.2.2.2.2.2.2.2.2.2.2.2.2.2.2.1 hnn).trans htab)
    (fun z hz => by
      obtain ⟨hz0, nm', hl1, hn1⟩ := hps z hz
      obtain ⟨c6, hc6, hcl6⟩ := Cond.classLink_spec C.2.2.2.2.1 (C.2.2.2.2.2.1 _ hl1) e.platform hpl
      obtain ⟨a8, b8, g1, g2, g3⟩ := hO.2.2.2.2.2.2 _ hn1
      cases Option.some.inj (g1.symm.trans hcls)
      cases Option.some.inj (g2.symm.trans hc6)
      exact Or.inr ⟨hz0, _, hcl6, g3⟩) hx (Or.inr ⟨h0, c4, hcl5, hasg⟩)
  have hcc := S.2.2.2.1
  have hzz := S.2.2.2.2.1
  have e1 : am_nc H1 - n0 = cells + (am_nc H1 - am_nc H) := by omega
  have e2 : am_nz H1 - z0 = slots + (am_nz H1 - am_nz H) := by omega
  have hend : ∀ ls' : Array Slot, W p l e R s m args below meth c T'.heap (locs ++ L) (cells + (am_nc H1 - am_nc H)) (slots + (am_nz H1 - am_nz H)) (am_MQ below (am_Q dC dI τ B0 ρ0 nx0 (.inl (some (.int v))) H1) (am_X dC dI τ B0 ρ0 nx0 (.inl (some (.int v))) H1) args s (am_nc H1 - n0) (am_nz H1 - z0) (am_A B0)) (F0 m (x.handlerPc + hl) ls' []) := fun ls' => by
    rw [e1, e2]
    exact lv_iconst C.1 C.2.1 d2 hv (am_ret (W.iret C.1 C.2.1 (C.2.2.2.1.trans hrt) (fun t9 ht9 hW9 => ⟨⟨some (.int v), ρ', rfl, rfl, S'.1, by rw [ht9]; exact S'.2.1⟩, S'.2.2.1.F ht9⟩) S'.2.2.1.2.2 d3 (hlocks := C.2.2.2.2.2.2.1)))
  have hfin : W p l e R s m args below meth c T'.heap (locs ++ L) (cells + (am_nc H1 - am_nc H)) (slots + (am_nz H1 - am_nz H)) (am_MQ below (am_Q dC dI τ B0 ρ0 nx0 (.inl (some (.int v))) H1) (am_X dC dI τ B0 ρ0 nx0 (.inl (some (.int v))) H1) args s (am_nc H1 - n0) (am_nz H1 - z0) (am_A B0)) (F0 m x.handlerPc ls [.ref q]) := by
    rcases d1 with ⟨w, d1, hwi, rfl⟩ | ⟨d1, rfl⟩
    · exact lv_astore_n C.1 C.2.1 d1 hwi S'.2.2.2.2.2 hi7 rfl (fun ls' _ => hend ls')
    · exact lv_astore C.1 C.2.1 d1 S'.2.2.2.2.2 hi7 rfl (fun ls' _ => hend ls')
  obtain ⟨t9, a9, b9⟩ := hfin (T'.setVm vm') rfl X2
  exact ⟨t9, hstep₁ _ fun acts => by rw [doInvoke_state]; exact st2.trans a9, b9⟩
end AMV
section AMF
variable {ox : List (Nat × (Nat → Int32))} {d : Nat} {M : am_M} {pc q : Nat} {lv : List (Nat × Value)} {st stk : List Value} {H : am_H} {P P1 : Option Value ⊕ String → am_H → Prop}
theorem ae_throw {ik is ic : Nat} {cls text : String} {names : List String} (d0 : decode M.2.1 pc = .ok (.new ik, 3)) (d3 : decode M.2.1 (pc + 3) = .ok (.dup, 1)) (d4 : decode M.2.1 (pc + 4) = .ok (.ldc is, 2)) (d6 : decode M.2.1 (pc + 6) = .ok (.invokespecial ic, 3)) (d9 : decode M.2.1 (pc + 9) = .ok (.athrow, 1))
    (hcls : Bundle.fit cls = true) (hnames : ∀ n ∈ names, Bundle.fit n = true) (hk : Cond.classLink M.1 ik cls ∈ am_words) (hini : Cond.initialized cls ∈ am_words) (htx : (M.1, is, text) ∈ am_txs) (hat : (Bundle.ownAtoms M.1 ic cls names).all am_tw = true) (hnn : M.2.2.2.2.1 ≠ "") (htab : M.2.2.2.2.2 = []) (hnl : names.length + 4 ≤ d) (hc8 : (st.map fun v => v.category).sum ≤ 8) (hP : P (.inr cls) (am_ga H 1 6)) : am_E ox d M pc lv st H P :=
  ⟨_, _, am_throw d0 d3 d4 d6 d9 hcls hnames hk hini htx hat hnn htab hnl hc8, Nat.le_add_right _ _, Nat.le_add_right _ _, hP⟩
def am_DW (ox : List (Nat × (Nat → Int32))) (d : Nat) (y : MethodName) (M : am_M) (hh : List (Nat × Nat × Nat × Nat)) (as : List Value) (H : am_H) (P : Option Value ⊕ String → am_H → Prop) : Prop :=
  ∃ (o : Option Value ⊕ String) (H' : am_H), am_CW ox d y M hh as H o H' ∧ am_nc H ≤ am_nc H' ∧ am_nz H ≤ am_nz H' ∧ P o H'
theorem ae_enterW {y : MethodName} {hh : List (Nat × Nat × Nat × Nat)} {as : List Value} (hy : plainName y.cls = true) (hc : M.1 = y.cls) (hnm : M.2.2.2.2.1 = y.name) (htb : M.2.2.2.2.2 = am_tb hh) (hls : (lg_sl as).length ≤ M.2.2.1) (h : am_E ox d M 0 (lv_args 0 as) [] H P) : am_DW ox d y M hh as H P := by
  obtain ⟨o, H', hV, h1, h2, h3⟩ := h
  exact ⟨o, H', am_enterW hy hc hnm htb hls h1 h2 hV, h1, h2, h3⟩
def am_Mw (y : MethodName) (Mc : am_M) (hh : List (Nat × Nat × Nat × Nat)) (n : Nat) : Prop := Cond.codeWith y Mc.2.1 Mc.2.2.1 Mc.2.2.2.1 hh ∈ am_words ∧ Cond.initialized y.cls ∈ am_words ∧ (y.cls ≠ "java/lang/invoke/MethodHandle" ∧ y.cls ≠ "java/lang/invoke/VarHandle" ∧ (parseMethodDescriptor y.desc).map (fun d => d.parameters.length) = some n) ∧ Mc.2.2.1 ≤ 7
theorem ae_callSW {y : MethodName} {Mc : am_M} {hh : List (Nat × Nat × Nat × Nat)} {as : List Value} {idx n : Nat} (hd : decode M.2.1 pc = .ok (.invokestatic idx, 3)) (hC : am_DW ox d y Mc hh as H P1) (hy : am_Mw y Mc hh n) (hlk : Cond.methodLink M.1 idx y ∈ am_words) (hs : Cond.static y ∈ am_words) (hn : as.length = n) (hst : stk = as.reverse ++ st) (hc8 : (st.map fun v => v.category).sum ≤ 8) (hq : pc + 3 = q) (hx : ∀ o H1, P1 o H1 → ∃ v, o = .inl v) (kk : ∀ v H1, P1 (.inl v) H1 → am_fine H H1 lv st ∧ am_E ox (d + 1) M q lv (v.toList ++ st) H1 P) : am_E ox (d + 1) M pc lv stk H P := by
  obtain ⟨o1, H1, hc, c1, c2, hp⟩ := hC
  obtain ⟨v, rfl⟩ := hx o1 H1 hp
  obtain ⟨hf, o, H', hV, h1, h2, h3⟩ := kk v H1 hp
  exact ⟨o, H', am_callSW hd hc hy.1 hy.2.1 hy.2.2.1 hy.2.2.2 hlk hs hn hst hc8 hf c1 c2 h1 h2 hq hV, Nat.le_trans c1 h1, Nat.le_trans c2 h2, h3⟩
/-- E, thrown at pc of M, comes to a handler that answers v -/
def am_Hd (M : am_M) (pc : Nat) (E : String) (v : Int32) : Prop := ∃ (nm : String) (x : ExceptionTableEntry) (pre suf : List ExceptionTableEntry) (i hl : Nat) (kn : Int), M.2.2.2.2.1 ≠ "" ∧ M.2.2.2.2.2 = pre ++ x :: suf ∧ covers x pc = true ∧ x.catchType ≠ 0 ∧ Cond.classLink M.1 x.catchType nm ∈ am_words ∧ Cond.castable E nm ∈ am_nst ∧ (∀ z ∈ pre, z.catchType ≠ 0 ∧ ∃ nm' : String, Cond.classLink M.1 z.catchType nm' ∈ am_words ∧ (E, nm') ∈ am_ncs) ∧
  ((∃ w : Fin 4, decode M.2.1 x.handlerPc = .ok (.astore_n w, 1) ∧ (w : Nat) = i ∧ hl = 1) ∨ (decode M.2.1 x.handlerPc = .ok (.astore i, 2) ∧ hl = 2)) ∧ i < M.2.2.1 ∧ decode M.2.1 (x.handlerPc + hl) = .ok (.iconst kn, 1) ∧ Int32.ofInt kn = v ∧ decode M.2.1 (x.handlerPc + hl + 1) = .ok (.ireturn, 1) ∧ M.2.2.2.1 = some .int
/-- a call that returns, or throws and is caught -/
theorem ae_callVX {y : MethodName} {Mc : am_M} {as : List Value} {idx n b ci N : Nat} {r : vw_C} (hd : decode M.2.1 pc = .ok (.invokevirtual idx, 3)) (hC : am_D ox d y Mc (.ref b :: as) H P1) (hy : am_My y Mc n) (hlk : Cond.methodLink M.1 idx y ∈ am_words) (hi : Cond.instanceMethod y ∈ am_words) (hse : Cond.selects r.1 y y ∈ am_words) (hr : vwCl[ci]? = some r) (h100 : ci < 100) (hs : am_sh H b = (ci, N)) (hb : b < am_nx H) (hn : as.length = n) (hst : stk = as.reverse ++ .ref b :: st) (hc8 : (st.map fun v => v.category).sum ≤ 8) (hq : pc + 3 = q) (kk : ∀ v H1, P1 (.inl v) H1 → am_fine H H1 lv st ∧ am_E ox (d + 1) M q lv (v.toList ++ st) H1 P) (kx : ∀ E H1, P1 (.inr E) H1 → am_fine H H1 lv st ∧ ∃ v, am_Hd M pc E v ∧ P (.inl (some (.int v))) H1) : am_E ox (d + 1) M pc lv stk H P := by
  obtain ⟨o1, H1, hc, c1, c2, hp⟩ := hC
  cases o1 with
  | inl v =>
    obtain ⟨hf, o, H', hV, h1, h2, h3⟩ := kk v H1 hp
    exact ⟨o, H', am_callV hd hc hy hlk hi hse hr h100 hs hb hn hst hc8 hf c1 c2 h1 h2 hq hV, Nat.le_trans c1 h1, Nat.le_trans c2 h2, h3⟩
  | inr E =>
    obtain ⟨hf, v, ⟨nm, x, pre, suf, i, hl, kn, g1, g2, g3, g4, g5, g6, g7, g8, g9, g10, g11, g12, g13⟩, hPv⟩ := kx E H1 hp
    exact ⟨_, _, am_callX hd hc hy hlk hi hse hr h100 hs hb hn hst hc8 hf c1 c2 g1 g2 g3 g4 g5 g6 g7 g8 g9 g10 g11 g12 g13, c1, c2, hPv⟩
end AMF
end
